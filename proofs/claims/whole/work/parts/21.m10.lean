/-! what hangs together -/
def nb4 (S : Cl) (i j : Nat) : Bool := (((pd S (i + 1) (j + 1) || pd S i (j + 1)) || pd S (i + 2) (j + 1)) || pd S (i + 1) j) || pd S (i + 1) (j + 2)
def Sub (S T : Cl) : Prop := ∀ i, i < 120 → ∀ j, j < 120 → S i j = true → T i j = true
def Clo (A U : Cl) : Prop := ∀ i, i < 120 → ∀ j, j < 120 → A i j = true → nb4 U i j = true → U i j = true
def Hng (A S T : Cl) : Prop := Sub S T ∧ Sub T A ∧ Clo A T ∧ ∀ U, Sub S U → Clo A U → Sub T U
theorem pd_mono {S T : Cl} (h : Sub S T) {i j : Nat} (q : pd S i j = true) : pd T i j = true := by
  rw [pd, Bool.and_eq_true, decide_eq_true_iff] at q
  rw [pd, decide_eq_true q.1, Bool.true_and]
  exact h _ (by omega) _ (by omega) q.2
theorem nb4_mono {S T : Cl} (h : Sub S T) {i j : Nat} (q : nb4 S i j = true) : nb4 T i j = true := by
  simp only [nb4, Bool.or_eq_true] at q ⊢
  rcases q with (((q | q) | q) | q) | q
  · exact Or.inl (Or.inl (Or.inl (Or.inl (pd_mono h q))))
  · exact Or.inl (Or.inl (Or.inl (Or.inr (pd_mono h q))))
  · exact Or.inl (Or.inl (Or.inr (pd_mono h q)))
  · exact Or.inl (Or.inr (pd_mono h q))
  · exact Or.inr (pd_mono h q)
theorem nb4_self {S : Cl} {i j : Nat} (hi : i < 120) (hj : j < 120) (q : S i j = true) : nb4 S i j = true := by
  rw [nb4, pd_in hi hj, q]; rfl
theorem fb_ct_lt {p q : Nat → Bool} : ∀ {n : Nat}, (∀ k, k < n → p k = true → q k = true) → (∃ k, k < n ∧ p k = false ∧ q k = true) → fb_ct p n < fb_ct q n
  | 0, _, h => by obtain ⟨k, hk, -⟩ := h; omega
  | n + 1, h, hx => by
    rw [fb_ct_succ, fb_ct_succ]
    obtain ⟨k, hk, h1, h2⟩ := hx
    have hs : fb_ct p n ≤ fb_ct q n := fb_ct_sub (fun k hk => h k (by omega))
    by_cases e : k = n
    · subst e
      rw [h1, h2]
      simp
      omega
    · have := fb_ct_lt (n := n) (fun k hk => h k (by omega)) ⟨k, by omega, h1, h2⟩
      have hn := h n (by omega)
      cases hp : p n with
      | false => simp; omega
      | true => rw [hn hp]; simp; omega
theorem fb_sm_lt {f g : Nat → Nat} : ∀ {n : Nat}, (∀ k, k < n → f k ≤ g k) → (∃ k, k < n ∧ f k < g k) → fb_sm f n < fb_sm g n
  | 0, _, h => by obtain ⟨k, hk, -⟩ := h; omega
  | n + 1, h, hx => by
    rw [fb_sm_succ, fb_sm_succ]
    obtain ⟨k, hk, h1⟩ := hx
    have hs : fb_sm f n ≤ fb_sm g n := fb_sm_le (fun k hk => h k (by omega))
    have hn := h n (by omega)
    by_cases e : k = n
    · subst e; omega
    · have := fb_sm_lt (n := n) (fun k hk => h k (by omega)) ⟨k, by omega, h1⟩
      omega
theorem cntC_le {S T : Cl} (h : Sub S T) : cntC S ≤ cntC T := fb_sm_le (fun j hj => fb_ct_sub (fun i hi => h i hi j hj))
theorem cntC_lt {S T : Cl} (h : Sub S T) (hx : ∃ i, i < 120 ∧ ∃ j, j < 120 ∧ S i j = false ∧ T i j = true) : cntC S < cntC T := by
  obtain ⟨i, hi, j, hj, h1, h2⟩ := hx
  exact fb_sm_lt (fun j hj => fb_ct_sub (fun i hi => h i hi j hj)) ⟨j, hj, fb_ct_lt (fun i hi => h i hi j hj) ⟨i, hi, h1, h2⟩⟩
theorem cntC_max (S : Cl) : cntC S ≤ 14400 := by
  have h : cntC S ≤ 120 * 120 := fb_sm_bound (fun j _ => fb_ct_le _ 120)
  omega
theorem cntC_congr {S T : Cl} (h : ∀ i, i < 120 → ∀ j, j < 120 → S i j = T i j) : cntC S = cntC T := fb_sm_cong (fun j hj => fb_ct_cong (fun i hi => h i hi j hj))
def hgA (s : Nat → Int64) (v : Nat) : Int64 := (((((s (1200 + 2 * v) ||| upA (s (1200 + 2 * v))) ||| (s (1200 + 2 * v) >>> ((oI 1).toInt64 &&& 63))) ||| ((s (1200 + 2 * v + 1) &&& 1) <<< ((oI 59).toInt64 &&& 63))) ||| (if v = 0 then 0 else s (1200 + 2 * v - 2))) ||| (if v = 119 then 0 else s (1200 + 2 * v + 2))) &&& s (1680 + 2 * v)
def hgB (s : Nat → Int64) (v : Nat) : Int64 := ((((s (1200 + 2 * v + 1) ||| upB (s (1200 + 2 * v)) (s (1200 + 2 * v + 1))) ||| dnB (s (1200 + 2 * v + 1))) ||| (if v = 0 then 0 else s (1200 + 2 * v - 1))) ||| (if v = 119 then 0 else s (1200 + 2 * v + 3))) &&& s (1680 + 2 * v + 1)
section HNG
variable {s : Nat → Int64} {S A : Cl}
theorem ARw {a : Nat} (h : AR s a S) {k v : Nat} (hk : k < 60) (hv : v < 120) : tb (s (240 * a + 2 * v)) k = S k v := by
  rw [← h.2 k (by omega) v hv, cM, show k / 60 = 0 by omega, show k % 60 = k by omega]; rfl
theorem ARe {a : Nat} (h : AR s a S) {k v : Nat} (hk : k < 60) (hv : v < 120) : tb (s (240 * a + 2 * v + 1)) k = S (k + 60) v := by
  rw [← h.2 (k + 60) (by omega) v hv, cM, show (k + 60) / 60 = 1 by omega, show (k + 60) % 60 = k by omega]
theorem AR6 {a : Nat} (h : AR s a S) {v : Nat} (hv : v < 120) : b60 (s (240 * a + 2 * v)) ∧ b60 (s (240 * a + 2 * v + 1)) := ⟨h.1 (2 * v) (by omega), h.1 (2 * v + 1) (by omega)⟩
theorem hgA_tb (hS : AR s 5 S) (hA : AR s 7 A) {k v : Nat} (hk : k < 60) (hv : v < 120) : tb (hgA s v) k = (nb4 S k v && A k v) := by
  have h6 := AR6 hS hv
  rw [hgA, tb_and, tb_or, tb_or, tb_or, tb_or, tb_or, ARw hA hk hv]
  congr 1
  have e0 : tb (s (1200 + 2 * v)) k = pd S (k + 1) (v + 1) := by rw [pd_in (by omega) hv]; exact ARw hS hk hv
  have e1 : tb (upA (s (1200 + 2 * v))) k = pd S k (v + 1) := by
    rw [upA_tb _ hk]
    by_cases q : 1 ≤ k
    · rw [decide_eq_true q, Bool.true_and, show k = (k - 1) + 1 by omega, pd_in (by omega) hv]
      exact ARw hS (by omega) hv
    · rw [decide_eq_false q, Bool.false_and, show k = 0 by omega, pd_i0]
  have e2 : (tb (s (1200 + 2 * v) >>> ((oI 1).toInt64 &&& 63)) k || tb ((s (1200 + 2 * v + 1) &&& 1) <<< ((oI 59).toInt64 &&& 63)) k) = pd S (k + 2) (v + 1) := by
    rw [← tb_or]
    show tb (dnA (s (1200 + 2 * v)) (s (1200 + 2 * v + 1))) k = _
    rw [dnA_tb h6.1 hk, show k + 2 = (k + 1) + 1 by omega, pd_in (by omega) hv]
    by_cases q : k = 59
    · rw [if_pos q, q]; exact ARe hS (by omega) hv
    · rw [if_neg q]; exact ARw hS (by omega) hv
  have e3 : tb (if v = 0 then 0 else s (1200 + 2 * v - 2)) k = pd S (k + 1) v := by
    by_cases q : v = 0
    · rw [if_pos q, tb_0, q, pd_j (Or.inl rfl)]
    · rw [if_neg q, show v = (v - 1) + 1 by omega, pd_in (by omega) (by omega), ← ARw hS hk (show v - 1 < 120 by omega)]
      congr 2
  have e4 : tb (if v = 119 then 0 else s (1200 + 2 * v + 2)) k = pd S (k + 1) (v + 2) := by
    by_cases q : v = 119
    · rw [if_pos q, tb_0, q, pd_j (by omega)]
    · rw [if_neg q, show v + 2 = (v + 1) + 1 by omega, pd_in (by omega) (by omega), ← ARw hS hk (show v + 1 < 120 by omega)]
      congr 2
  rw [e0, e1, Bool.or_assoc (pd S (k + 1) (v + 1) || pd S k (v + 1)), e2, e3, e4, nb4]
theorem hgB_tb (hS : AR s 5 S) (hA : AR s 7 A) {k v : Nat} (hk : k < 60) (hv : v < 120) : tb (hgB s v) k = (nb4 S (k + 60) v && A (k + 60) v) := by
  have h6 := AR6 hS hv
  rw [hgB, tb_and, tb_or, tb_or, tb_or, tb_or, ARe hA hk hv]
  congr 1
  have e0 : tb (s (1200 + 2 * v + 1)) k = pd S (k + 60 + 1) (v + 1) := by rw [pd_in (by omega) hv]; exact ARe hS hk hv
  have e1 : tb (upB (s (1200 + 2 * v)) (s (1200 + 2 * v + 1))) k = pd S (k + 60) (v + 1) := by
    rw [upB_tb h6.1 hk]
    by_cases q : k = 0
    · rw [if_pos q, q, show 0 + 60 = 59 + 1 from rfl, pd_in (by omega) hv]; exact ARw hS (by omega) hv
    · rw [if_neg q, show k + 60 = (k - 1 + 60) + 1 by omega, pd_in (by omega) hv]; exact ARe hS (by omega) hv
  have e2 : tb (dnB (s (1200 + 2 * v + 1))) k = pd S (k + 60 + 2) (v + 1) := by
    rw [dnB_tb _ hk]
    by_cases q : k < 59
    · rw [show k + 60 + 2 = (k + 1 + 60) + 1 by omega, pd_in (by omega) hv]; exact ARe hS (by omega) hv
    · rw [h6.2 _ (by omega), show k + 60 + 2 = 121 by omega, pd_i1]
  have e3 : tb (if v = 0 then 0 else s (1200 + 2 * v - 1)) k = pd S (k + 60 + 1) v := by
    by_cases q : v = 0
    · rw [if_pos q, tb_0, q, pd_j (Or.inl rfl)]
    · rw [if_neg q, show v = (v - 1) + 1 by omega, pd_in (by omega) (by omega), ← ARe hS hk (show v - 1 < 120 by omega)]
      congr 2
  have e4 : tb (if v = 119 then 0 else s (1200 + 2 * v + 3)) k = pd S (k + 60 + 1) (v + 2) := by
    by_cases q : v = 119
    · rw [if_pos q, tb_0, q, pd_j (by omega)]
    · rw [if_neg q, show v + 2 = (v + 1) + 1 by omega, pd_in (by omega) (by omega), ← ARe hS hk (show v + 1 < 120 by omega)]
      congr 2
  rw [e0, e1, e2, e3, e4, nb4]
/-- row v is laid anew -/
def hgS (S A : Cl) (v : Nat) : Cl := fun i j => if j = v then nb4 S i v && A i v else S i j
def hgT (s : Nat → Int64) (v : Nat) : Nat → Int64 := vp_updL (vp_updL s (1200 + 2 * v) (hgA s v)) (1200 + 2 * v + 1) (hgB s v)
theorem hgT_at (s : Nat → Int64) (v k : Nat) : hgT s v k = if k = 1200 + 2 * v + 1 then hgB s v else if k = 1200 + 2 * v then hgA s v else s k := rfl
theorem hg_60 (hS : AR s 5 S) (hA : AR s 7 A) {v : Nat} (hv : v < 120) : b60 (hgA s v) ∧ b60 (hgB s v) := by
  have h := AR6 hA hv
  refine ⟨fun i hi => ?_, fun i hi => ?_⟩
  · rw [hgA, tb_and, h.1 i hi, Bool.and_false]
  · rw [hgB, tb_and, h.2 i hi, Bool.and_false]
theorem AR_hg (hS : AR s 5 S) (hA : AR s 7 A) {v : Nat} (hv : v < 120) : AR (hgT s v) 5 (hgS S A v) := by
  have h6 := hg_60 hS hA hv
  refine ⟨fun k hk => ?_, fun i hi j hj => ?_⟩
  · rw [hgT_at]
    by_cases q : 240 * 5 + k = 1200 + 2 * v + 1
    · rw [if_pos q]; exact h6.2
    · rw [if_neg q]
      by_cases q2 : 240 * 5 + k = 1200 + 2 * v
      · rw [if_pos q2]; exact h6.1
      · rw [if_neg q2]; exact hS.1 k hk
  · rw [cM, hgT_at, hgS]
    by_cases q : j = v
    · subst q
      rw [if_pos rfl]
      by_cases q2 : i < 60
      · rw [if_neg (by omega), if_pos (by omega), show i % 60 = i by omega, hgA_tb hS hA q2 hj]
      · rw [if_pos (by omega), hgB_tb hS hA (by omega) hj, show i % 60 + 60 = i by omega]
    · rw [if_neg q, if_neg (by omega), if_neg (by omega), ← hS.2 i hi j hj, cM]
theorem Out5_hg (s : Nat → Int64) {v : Nat} (hv : v < 120) : Out5 s (hgT s v) := by
  intro k hk
  rw [hgT_at, if_neg (by omega), if_neg (by omega)]
/-- if a row's longs stay, its cells stay -/
theorem hg_same (hS : AR s 5 S) (hA : AR s 7 A) {v : Nat} (hv : v < 120) (e1 : hgA s v = s (1200 + 2 * v)) (e2 : hgB s v = s (1200 + 2 * v + 1)) : ∀ i, i < 120 → (nb4 S i v && A i v) = S i v := by
  intro i hi
  by_cases q : i < 60
  · rw [← hgA_tb hS hA q hv, e1]; exact ARw hS q hv
  · have e := hgB_tb hS hA (k := i - 60) (by omega) hv
    rw [show i - 60 + 60 = i by omega] at e
    rw [← e, e2]
    have e3 := ARe hS (k := i - 60) (v := v) (by omega) hv
    rw [show i - 60 + 60 = i by omega] at e3
    exact e3
theorem hg_diff (hS : AR s 5 S) (hA : AR s 7 A) (hsub : Sub S A) {v : Nat} (hv : v < 120) (e : ¬ (hgA s v = s (1200 + 2 * v) ∧ hgB s v = s (1200 + 2 * v + 1))) : ∃ i, i < 120 ∧ S i v = false ∧ (nb4 S i v && A i v) = true := by
  have h6 := hg_60 hS hA hv
  have s6 := AR6 hS hv
  have key : ∀ i, i < 120 → S i v = true → (nb4 S i v && A i v) = true := fun i hi q => by rw [nb4_self hi hv q, hsub i hi v hv q]; rfl
  by_cases hx : ∃ i, i < 120 ∧ S i v = false ∧ (nb4 S i v && A i v) = true
  · exact hx
  · exfalso
    have all : ∀ i, i < 120 → (nb4 S i v && A i v) = S i v := by
      intro i hi
      cases q : S i v with
      | true => exact key i hi q
      | false =>
        cases q2 : (nb4 S i v && A i v) with
        | false => rfl
        | true => exact absurd ⟨i, hi, q, q2⟩ hx
    apply e
    refine ⟨b60_ext h6.1 s6.1 (fun k hk => ?_), b60_ext h6.2 s6.2 (fun k hk => ?_)⟩
    · rw [hgA_tb hS hA hk hv, all k (by omega)]; exact (ARw hS hk hv).symm
    · rw [hgB_tb hS hA hk hv, all (k + 60) (by omega)]; exact (ARe hS hk hv).symm
end HNG
theorem hgS_sub {S A : Cl} (hsub : Sub S A) {v : Nat} : Sub S (hgS S A v) := by
  intro i hi j hj q
  rw [hgS]
  by_cases e : j = v
  · subst e; rw [if_pos rfl, nb4_self hi hj q, hsub i hi j hj q]; rfl
  · rw [if_neg e]; exact q
theorem hgS_subA {S A : Cl} (hsub : Sub S A) {v : Nat} : Sub (hgS S A v) A := by
  intro i hi j hj q
  rw [hgS] at q
  by_cases e : j = v
  · subst e; rw [if_pos rfl, Bool.and_eq_true] at q; exact q.2
  · rw [if_neg e] at q; exact hsub i hi j hj q
theorem hgS_U {S A U : Cl} (h : Sub S U) (hU : Clo A U) {v : Nat} : Sub (hgS S A v) U := by
  intro i hi j hj q
  rw [hgS] at q
  by_cases e : j = v
  · subst e; rw [if_pos rfl, Bool.and_eq_true] at q; exact hU i hi j hj q.2 (nb4_mono h q.1)
  · rw [if_neg e] at q; exact h i hi j hj q
/-- inside a pass over the rows: P at its start, S now, rows below v are done; mo: something has changed -/
def Pas (A S0 P S : Cl) (v : Nat) (mo : Bool) : Prop := (Sub S0 S ∧ Sub S A ∧ ∀ U, Sub S0 U → Clo A U → Sub S U) ∧ Sub P S ∧ (mo = true → cntC P < cntC S) ∧ (mo = false → (∀ i, i < 120 → ∀ j, j < 120 → S i j = P i j) ∧ ∀ j, j < v → ∀ i, i < 120 → (nb4 P i j && A i j) = P i j)
theorem Pas.t {A S0 P S : Cl} {v : Nat} (h : Pas A S0 P S v true) : Pas A S0 P (hgS S A v) (v + 1) true :=
  ⟨⟨fun i hi j hj q => hgS_sub h.1.2.1 i hi j hj (h.1.1 i hi j hj q), hgS_subA h.1.2.1, fun U h1 h2 => hgS_U (h.1.2.2 U h1 h2) h2⟩, fun i hi j hj q => hgS_sub h.1.2.1 i hi j hj (h.2.1 i hi j hj q), fun _ => Nat.lt_of_lt_of_le (h.2.2.1 rfl) (cntC_le (hgS_sub h.1.2.1)), fun q => (by cases q)⟩
theorem Pas.ft {A S0 P S : Cl} {v : Nat} (hv : v < 120) (h : Pas A S0 P S v false) (hx : ∃ i, i < 120 ∧ S i v = false ∧ (nb4 S i v && A i v) = true) : Pas A S0 P (hgS S A v) (v + 1) true := by
  refine ⟨⟨fun i hi j hj q => hgS_sub h.1.2.1 i hi j hj (h.1.1 i hi j hj q), hgS_subA h.1.2.1, fun U h1 h2 => hgS_U (h.1.2.2 U h1 h2) h2⟩, fun i hi j hj q => hgS_sub h.1.2.1 i hi j hj (h.2.1 i hi j hj q), fun _ => ?_, fun q => (by cases q)⟩
  rw [← cntC_congr (h.2.2.2 rfl).1]
  obtain ⟨i, hi, h1, h2⟩ := hx
  exact cntC_lt (hgS_sub h.1.2.1) ⟨i, hi, v, hv, h1, by rw [hgS, if_pos rfl]; exact h2⟩
theorem nb4_congr {S T : Cl} (h : ∀ i, i < 120 → ∀ j, j < 120 → S i j = T i j) (i j : Nat) : nb4 S i j = nb4 T i j := by
  rw [Bool.eq_iff_iff]
  exact ⟨nb4_mono (fun i hi j hj q => by rw [← h i hi j hj]; exact q), nb4_mono (fun i hi j hj q => by rw [h i hi j hj]; exact q)⟩
theorem Pas.ff {A S0 P S : Cl} {v : Nat} (hv : v < 120) (h : Pas A S0 P S v false) (hx : ∀ i, i < 120 → (nb4 S i v && A i v) = S i v) : Pas A S0 P (hgS S A v) (v + 1) false := by
  refine ⟨⟨fun i hi j hj q => hgS_sub h.1.2.1 i hi j hj (h.1.1 i hi j hj q), hgS_subA h.1.2.1, fun U h1 h2 => hgS_U (h.1.2.2 U h1 h2) h2⟩, fun i hi j hj q => hgS_sub h.1.2.1 i hi j hj (h.2.1 i hi j hj q), fun q => (by cases q), fun _ => ⟨fun i hi j hj => ?_, fun j hj i hi => ?_⟩⟩
  · rw [hgS]
    by_cases e : j = v
    · subst e; rw [if_pos rfl, hx i hi]; exact (h.2.2.2 rfl).1 i hi j hj
    · rw [if_neg e]; exact (h.2.2.2 rfl).1 i hi j hj
  · by_cases e : j = v
    · subst e
      rw [← nb4_congr (h.2.2.2 rfl).1, hx i hi]
      exact (h.2.2.2 rfl).1 i hi j hv
    · exact (h.2.2.2 rfl).2 j (by omega) i hi
theorem Pas.end {A S0 P S : Cl} (h : Pas A S0 P S 120 false) : Hng A S0 S := by
  obtain ⟨e1, e2⟩ := h.2.2.2 rfl
  refine ⟨h.1.1, h.1.2.1, fun i hi j hj hA q => ?_, h.1.2.2⟩
  rw [e1 i hi j hj, ← e2 j hj i hi, hA, ← nb4_congr e1, q]; rfl
theorem c_X6_hangs {E : Le} {l : Launch} {D : Dt} {A S0 : Cl} (hA : AR (D.2.1 21 0) 7 A) (hS0 : AR (D.2.1 21 0) 5 S0) (hsub : Sub S0 A) : ConVp E l yX6_hangs cX6_hangs 12 none 1 [.ref (E.1 (20, 0))] D (fun D' => ∃ t T, D' = lU D 21 0 t ∧ Out5 (D.2.1 21 0) t ∧ AR t 5 T ∧ Hng A S0 T) := by
  refine Con_of (by decide) (Nat.le_of_ble_eq_true rfl) ?_
  intro X hX hR hl; subst hl
  have outer : ∀ (m : Nat) (mo : Bool) (t : Nat → Int64) (P : Cl), (mo = true → Out5 (D.2.1 21 0) t ∧ AR t 5 P ∧ Sub S0 P ∧ Sub P A ∧ ∀ U, Sub S0 U → Clo A U → Sub P U) → (mo = false → Out5 (D.2.1 21 0) t ∧ AR t 5 P ∧ Hng A S0 P) → (mo = true → 14400 - cntC P < m) → Vw E X 12 (lU D 21 0 t) 2 [(0, some (.ref (E.1 (20, 0)))), (1, some (.int (bI mo)))] [] := by
    intro m
    induction m with
    | zero =>
      intro mo t P g1 g2 g3
      cases mo with
      | true => exact absurd (g3 rfl) (Nat.not_lt_zero _)
      | false =>
        refine V_iload_n (pc := 2) (j := 1) hX 1 rfl rfl dX6_hangs_2 ?_
        refine B_if_eq (pc := 3) (tgt := 257) hX dX6_hangs_3 (by decide) (fun h3 => ?_) (fun h3 => ?_)
        · refine V_vret (pc := 257) hX hR dX6_hangs_257 ?_
          obtain ⟨e2, hS, hH⟩ := g2 rfl
          exact ⟨rfl, t, P, rfl, e2, hS, hH⟩
        · exact absurd h3 (by decide)
    | succ m ihO =>
      intro mo t P g1 g2 g3
      cases mo with
      | false =>
        refine V_iload_n (pc := 2) (j := 1) hX 1 rfl rfl dX6_hangs_2 ?_
        refine B_if_eq (pc := 3) (tgt := 257) hX dX6_hangs_3 (by decide) (fun h3 => ?_) (fun h3 => ?_)
        · refine V_vret (pc := 257) hX hR dX6_hangs_257 ?_
          obtain ⟨e2, hS, hH⟩ := g2 rfl
          exact ⟨rfl, t, P, rfl, e2, hS, hH⟩
        · exact absurd h3 (by decide)
      | true =>
        obtain ⟨e2, hS, i1, i2, i3⟩ := g1 rfl
        have inner : ∀ (k v : Nat) (mo : Bool) (t : Nat → Int64) (S : Cl), v ≤ 120 → Out5 (D.2.1 21 0) t → AR t 5 S → Pas A S0 P S v mo → 120 - v < k → Vw E X 12 (lU D 21 0 t) 11 [(0, some (.ref (E.1 (20, 0)))), (1, some (.int (bI mo))), (2, some (.int (oI ((v : Int) - 60))))] [] := by
          intro k
          induction k with
          | zero => intro v mo t S g1 e2 hS hP g4; omega
          | succ k ih =>
            intro v mo t S g1 e2 hS hP g4
            refine V_iload_n (pc := 11) (j := 2) hX 2 rfl rfl dX6_hangs_11 ?_
            refine V_bipush (pc := 12) (z := 59) hX (oI 59) (by decide) dX6_hangs_12 ?_
            refine Z_icmp_gt (pc := 14) (tgt := 254) hX (by omega) (by omega) dX6_hangs_14 (by decide) (fun h14 => ?_) (fun h14 => ?_)
            · refine V_goto (pc := 254) (off := (-252)) (tgt := 2) hX (by decide) dX6_hangs_254 ?_
              have e : v = 120 := by omega
              subst e
              refine V_cut [(0, some (.ref (E.1 (20, 0)))), (1, some (.int (bI mo)))] ⟨rfl, rfl, trivial⟩ ?_
              cases mo with
              | true => exact ihO true t S (fun _ => ⟨e2, hS, hP.1⟩) (fun q => (by cases q)) (fun _ => by have := hP.2.2.1 rfl; have q3 := g3 rfl; have q4 := cntC_max S; omega)
              | false => exact ihO false t S (fun q => (by cases q)) (fun _ => ⟨e2, hS, hP.end⟩) (fun q => (by cases q))
            · have hv : v < 120 := by omega
              have hA2 : AR t 7 A := hA.same (fun k hk => e2 _ (by omega))
              refine V_sipush (pc := 17) (z := 1200) hX (oI 1200) (by decide) dX6_hangs_17 ?_
              refine V_iconst (pc := 20) (z := 2) hX (oI 2) rfl dX6_hangs_20 ?_
              refine V_iload_n (pc := 21) (j := 2) hX 2 rfl rfl dX6_hangs_21 ?_
              refine V_bipush (pc := 22) (z := (-60)) hX (oI (-60)) (by decide) dX6_hangs_22 ?_
              refine Z_isub (pc := 24) hX dX6_hangs_24 ?_
              refine Z_imul (pc := 25) hX dX6_hangs_25 ?_
              refine Z_iadd (pc := 26) hX dX6_hangs_26 ?_
              refine V_istore_n (pc := 27) (j := 3) hX 3 rfl (by decide) rfl dX6_hangs_27 ?_
              refine V_aload_n (pc := 28) (j := 0) hX 0 rfl rfl dX6_hangs_28 ?_
              refine gf_X6_7 (pc := 29) hX dX6_hangs_29 ?_
              refine V_iload_n (pc := 32) (j := 3) hX 3 rfl rfl dX6_hangs_32 ?_
              refine zl_21 (pc := 33) hX (1200 + 2 * v) (by omega) (by omega) dX6_hangs_33 ?_
              refine V_lstore (pc := 34) hX (by decide) rfl dX6_hangs_34 ?_
              refine V_aload_n (pc := 36) (j := 0) hX 0 rfl rfl dX6_hangs_36 ?_
              refine gf_X6_7 (pc := 37) hX dX6_hangs_37 ?_
              refine V_iload_n (pc := 40) (j := 3) hX 3 rfl rfl dX6_hangs_40 ?_
              refine V_iconst (pc := 41) (z := 1) hX (oI 1) rfl dX6_hangs_41 ?_
              refine Z_iadd (pc := 42) hX dX6_hangs_42 ?_
              refine zl_21 (pc := 43) hX (1200 + 2 * v + 1) (by omega) (by omega) dX6_hangs_43 ?_
              refine V_lstore (pc := 44) hX (by decide) rfl dX6_hangs_44 ?_
              refine V_lload (pc := 46) hX rfl dX6_hangs_46 ?_
              refine V_lload (pc := 48) hX rfl dX6_hangs_48 ?_
              refine V_iconst (pc := 50) (z := 1) hX (oI 1) rfl dX6_hangs_50 ?_
              refine V_lshl (pc := 51) hX dX6_hangs_51 ?_
              refine V_ldc2 (pc := 52) hX (1152921504606846975) w_888 dX6_hangs_52 ?_
              refine V_land (pc := 55) hX dX6_hangs_55 ?_
              refine V_lor (pc := 56) hX dX6_hangs_56 ?_
              refine V_lload (pc := 57) hX rfl dX6_hangs_57 ?_
              refine V_iconst (pc := 59) (z := 1) hX (oI 1) rfl dX6_hangs_59 ?_
              refine V_lshr (pc := 60) hX dX6_hangs_60 ?_
              refine V_lor (pc := 61) hX dX6_hangs_61 ?_
              refine V_lload (pc := 62) hX rfl dX6_hangs_62 ?_
              refine V_lconst (pc := 64) (z := 1) hX 1 (by decide) dX6_hangs_64 ?_
              refine V_land (pc := 65) hX dX6_hangs_65 ?_
              refine V_bipush (pc := 66) (z := 59) hX (oI 59) (by decide) dX6_hangs_66 ?_
              refine V_lshl (pc := 68) hX dX6_hangs_68 ?_
              refine V_lor (pc := 69) hX dX6_hangs_69 ?_
              refine V_iload_n (pc := 70) (j := 2) hX 2 rfl rfl dX6_hangs_70 ?_
              refine V_bipush (pc := 71) (z := (-60)) hX (oI (-60)) (by decide) dX6_hangs_71 ?_
              refine Z_icmp_le (pc := 73) (tgt := 87) hX (by omega) (by omega) dX6_hangs_73 (by decide) (fun h73 => ?_) (fun h73 => ?_)
              · refine V_lconst (pc := 87) (z := 0) hX 0 (by decide) dX6_hangs_87 ?_
                refine V_lor (pc := 88) hX dX6_hangs_88 ?_
                refine V_iload_n (pc := 89) (j := 2) hX 2 rfl rfl dX6_hangs_89 ?_
                refine V_bipush (pc := 90) (z := 59) hX (oI 59) (by decide) dX6_hangs_90 ?_
                refine Z_icmp_ge (pc := 92) (tgt := 106) hX (by omega) (by omega) dX6_hangs_92 (by decide) (fun h92 => ?_) (fun h92 => ?_)
                · omega
                · refine V_aload_n (pc := 95) (j := 0) hX 0 rfl rfl dX6_hangs_95 ?_
                  refine gf_X6_7 (pc := 96) hX dX6_hangs_96 ?_
                  refine V_iload_n (pc := 99) (j := 3) hX 3 rfl rfl dX6_hangs_99 ?_
                  refine V_iconst (pc := 100) (z := 2) hX (oI 2) rfl dX6_hangs_100 ?_
                  refine Z_iadd (pc := 101) hX dX6_hangs_101 ?_
                  refine zl_21 (pc := 102) hX (1200 + 2 * v + 2) (by omega) (by omega) dX6_hangs_102 ?_
                  refine V_goto (pc := 103) (off := 4) (tgt := 107) hX (by decide) dX6_hangs_103 ?_
                  refine V_lor (pc := 107) hX dX6_hangs_107 ?_
                  refine V_lstore (pc := 108) hX (by decide) rfl dX6_hangs_108 ?_
                  refine V_lload (pc := 110) hX rfl dX6_hangs_110 ?_
                  refine V_lload (pc := 112) hX rfl dX6_hangs_112 ?_
                  refine V_iconst (pc := 114) (z := 1) hX (oI 1) rfl dX6_hangs_114 ?_
                  refine V_lshl (pc := 115) hX dX6_hangs_115 ?_
                  refine V_lload (pc := 116) hX rfl dX6_hangs_116 ?_
                  refine V_bipush (pc := 118) (z := 59) hX (oI 59) (by decide) dX6_hangs_118 ?_
                  refine V_lshr (pc := 120) hX dX6_hangs_120 ?_
                  refine V_lor (pc := 121) hX dX6_hangs_121 ?_
                  refine V_ldc2 (pc := 122) hX (1152921504606846975) w_888 dX6_hangs_122 ?_
                  refine V_land (pc := 125) hX dX6_hangs_125 ?_
                  refine V_lor (pc := 126) hX dX6_hangs_126 ?_
                  refine V_lload (pc := 127) hX rfl dX6_hangs_127 ?_
                  refine V_iconst (pc := 129) (z := 1) hX (oI 1) rfl dX6_hangs_129 ?_
                  refine V_lshr (pc := 130) hX dX6_hangs_130 ?_
                  refine V_lor (pc := 131) hX dX6_hangs_131 ?_
                  refine V_iload_n (pc := 132) (j := 2) hX 2 rfl rfl dX6_hangs_132 ?_
                  refine V_bipush (pc := 133) (z := (-60)) hX (oI (-60)) (by decide) dX6_hangs_133 ?_
                  refine Z_icmp_le (pc := 135) (tgt := 149) hX (by omega) (by omega) dX6_hangs_135 (by decide) (fun h135 => ?_) (fun h135 => ?_)
                  · refine V_lconst (pc := 149) (z := 0) hX 0 (by decide) dX6_hangs_149 ?_
                    refine V_lor (pc := 150) hX dX6_hangs_150 ?_
                    refine V_iload_n (pc := 151) (j := 2) hX 2 rfl rfl dX6_hangs_151 ?_
                    refine V_bipush (pc := 152) (z := 59) hX (oI 59) (by decide) dX6_hangs_152 ?_
                    refine Z_icmp_ge (pc := 154) (tgt := 168) hX (by omega) (by omega) dX6_hangs_154 (by decide) (fun h154 => ?_) (fun h154 => ?_)
                    · omega
                    · refine V_aload_n (pc := 157) (j := 0) hX 0 rfl rfl dX6_hangs_157 ?_
                      refine gf_X6_7 (pc := 158) hX dX6_hangs_158 ?_
                      refine V_iload_n (pc := 161) (j := 3) hX 3 rfl rfl dX6_hangs_161 ?_
                      refine V_iconst (pc := 162) (z := 3) hX (oI 3) rfl dX6_hangs_162 ?_
                      refine Z_iadd (pc := 163) hX dX6_hangs_163 ?_
                      refine zl_21 (pc := 164) hX (1200 + 2 * v + 3) (by omega) (by omega) dX6_hangs_164 ?_
                      refine V_goto (pc := 165) (off := 4) (tgt := 169) hX (by decide) dX6_hangs_165 ?_
                      refine V_lor (pc := 169) hX dX6_hangs_169 ?_
                      refine V_lstore (pc := 170) hX (by decide) rfl dX6_hangs_170 ?_
                      refine V_lload (pc := 172) hX rfl dX6_hangs_172 ?_
                      refine V_aload_n (pc := 174) (j := 0) hX 0 rfl rfl dX6_hangs_174 ?_
                      refine gf_X6_7 (pc := 175) hX dX6_hangs_175 ?_
                      refine V_sipush (pc := 178) (z := 480) hX (oI 480) (by decide) dX6_hangs_178 ?_
                      refine V_iload_n (pc := 181) (j := 3) hX 3 rfl rfl dX6_hangs_181 ?_
                      refine Z_iadd (pc := 182) hX dX6_hangs_182 ?_
                      refine zl_21 (pc := 183) hX (1680 + 2 * v) (by omega) (by omega) dX6_hangs_183 ?_
                      refine V_land (pc := 184) hX dX6_hangs_184 ?_
                      refine V_lstore (pc := 185) hX (by decide) rfl dX6_hangs_185 ?_
                      refine V_lload (pc := 187) hX rfl dX6_hangs_187 ?_
                      refine V_aload_n (pc := 189) (j := 0) hX 0 rfl rfl dX6_hangs_189 ?_
                      refine gf_X6_7 (pc := 190) hX dX6_hangs_190 ?_
                      refine V_sipush (pc := 193) (z := 480) hX (oI 480) (by decide) dX6_hangs_193 ?_
                      refine V_iload_n (pc := 196) (j := 3) hX 3 rfl rfl dX6_hangs_196 ?_
                      refine Z_iadd (pc := 197) hX dX6_hangs_197 ?_
                      refine V_iconst (pc := 198) (z := 1) hX (oI 1) rfl dX6_hangs_198 ?_
                      refine Z_iadd (pc := 199) hX dX6_hangs_199 ?_
                      refine zl_21 (pc := 200) hX (1680 + 2 * v + 1) (by omega) (by omega) dX6_hangs_200 ?_
                      refine V_land (pc := 201) hX dX6_hangs_201 ?_
                      refine V_lstore (pc := 202) hX (by decide) rfl dX6_hangs_202 ?_
                      refine V_iload_n (pc := 204) (j := 1) hX 1 rfl rfl dX6_hangs_204 ?_
                      refine B_if_ne (pc := 205) (tgt := 224) hX dX6_hangs_205 (by decide) (fun h205 => ?_) (fun h205 => ?_)
                      · refine V_iconst (pc := 224) (z := 1) hX (oI 1) rfl dX6_hangs_224 ?_
                        refine V_goto (pc := 225) (off := 4) (tgt := 229) hX (by decide) dX6_hangs_225 ?_
                        refine V_istore_n (pc := 229) (j := 1) hX 1 rfl (by decide) rfl dX6_hangs_229 ?_
                        refine V_aload_n (pc := 230) (j := 0) hX 0 rfl rfl dX6_hangs_230 ?_
                        refine gf_X6_7 (pc := 231) hX dX6_hangs_231 ?_
                        refine V_iload_n (pc := 234) (j := 3) hX 3 rfl rfl dX6_hangs_234 ?_
                        refine V_lload (pc := 235) hX rfl dX6_hangs_235 ?_
                        refine zs_21 (pc := 237) hX (1200 + 2 * v) (by omega) (by omega) dX6_hangs_237 ?_
                        refine V_aload_n (pc := 238) (j := 0) hX 0 rfl rfl dX6_hangs_238 ?_
                        refine gf_X6_7 (pc := 239) hX dX6_hangs_239 ?_
                        refine V_iload_n (pc := 242) (j := 3) hX 3 rfl rfl dX6_hangs_242 ?_
                        refine V_iconst (pc := 243) (z := 1) hX (oI 1) rfl dX6_hangs_243 ?_
                        refine Z_iadd (pc := 244) hX dX6_hangs_244 ?_
                        refine V_lload (pc := 245) hX rfl dX6_hangs_245 ?_
                        refine zs_21 (pc := 247) hX (1200 + 2 * v + 1) (by omega) (by omega) dX6_hangs_247 ?_
                        refine Z_iinc (pc := 248) hX 1 rfl rfl dX6_hangs_248 ?_
                        refine V_goto (pc := 251) (off := (-240)) (tgt := 11) hX (by decide) dX6_hangs_251 ?_
                        have xA : hgA t v = (((((t (1200 + 2 * v) ||| upA (t (1200 + 2 * v))) ||| (t (1200 + 2 * v) >>> ((oI 1).toInt64 &&& 63))) ||| ((t (1200 + 2 * v + 1) &&& 1) <<< ((oI 59).toInt64 &&& 63))) ||| 0) ||| t (1200 + 2 * v + 2)) &&& t (1680 + 2 * v) := by rw [hgA, if_pos (show v = 0 by omega), if_neg (show ¬ v = 119 by omega)]
                        have xB : hgB t v = ((((t (1200 + 2 * v + 1) ||| upB (t (1200 + 2 * v)) (t (1200 + 2 * v + 1))) ||| dnB (t (1200 + 2 * v + 1))) ||| 0) ||| t (1200 + 2 * v + 3)) &&& t (1680 + 2 * v + 1) := by rw [hgB, if_pos (show v = 0 by omega), if_neg (show ¬ v = 119 by omega)]
                        have hmo : mo = true := h205
                        subst hmo
                        have hP2 := hP.t
                        refine V_cut [(0, some (.ref (E.1 (20, 0)))), (1, some (.int (bI true))), (2, some (.int (oI (((v + 1 : Nat) : Int) - 60))))] ⟨rfl, congrArg (fun q => some (Value.int q)) (by decide), congrArg (fun q => some (Value.int (oI q))) (by omega), trivial⟩ ?_
                        refine V_heap (D' := lU D 21 0 (hgT t v)) (by rw [lU_lU, lU_lU, hgT, xA, xB, lU_get]; rfl) ?_
                        exact ih (v + 1) true (hgT t v) _ (by omega) (e2.tr (Out5_hg t hv)) (AR_hg hS hA2 hv) hP2 (by omega)
                      · refine V_lload (pc := 208) hX rfl dX6_hangs_208 ?_
                        refine V_lload (pc := 210) hX rfl dX6_hangs_210 ?_
                        refine V_lcmp (pc := 212) hX dX6_hangs_212 ?_
                        refine L_if_ne (pc := 213) (tgt := 224) hX dX6_hangs_213 (by decide) (fun h213 => ?_) (fun h213 => ?_)
                        · refine V_iconst (pc := 224) (z := 1) hX (oI 1) rfl dX6_hangs_224 ?_
                          refine V_goto (pc := 225) (off := 4) (tgt := 229) hX (by decide) dX6_hangs_225 ?_
                          refine V_istore_n (pc := 229) (j := 1) hX 1 rfl (by decide) rfl dX6_hangs_229 ?_
                          refine V_aload_n (pc := 230) (j := 0) hX 0 rfl rfl dX6_hangs_230 ?_
                          refine gf_X6_7 (pc := 231) hX dX6_hangs_231 ?_
                          refine V_iload_n (pc := 234) (j := 3) hX 3 rfl rfl dX6_hangs_234 ?_
                          refine V_lload (pc := 235) hX rfl dX6_hangs_235 ?_
                          refine zs_21 (pc := 237) hX (1200 + 2 * v) (by omega) (by omega) dX6_hangs_237 ?_
                          refine V_aload_n (pc := 238) (j := 0) hX 0 rfl rfl dX6_hangs_238 ?_
                          refine gf_X6_7 (pc := 239) hX dX6_hangs_239 ?_
                          refine V_iload_n (pc := 242) (j := 3) hX 3 rfl rfl dX6_hangs_242 ?_
                          refine V_iconst (pc := 243) (z := 1) hX (oI 1) rfl dX6_hangs_243 ?_
                          refine Z_iadd (pc := 244) hX dX6_hangs_244 ?_
                          refine V_lload (pc := 245) hX rfl dX6_hangs_245 ?_
                          refine zs_21 (pc := 247) hX (1200 + 2 * v + 1) (by omega) (by omega) dX6_hangs_247 ?_
                          refine Z_iinc (pc := 248) hX 1 rfl rfl dX6_hangs_248 ?_
                          refine V_goto (pc := 251) (off := (-240)) (tgt := 11) hX (by decide) dX6_hangs_251 ?_
                          have xA : hgA t v = (((((t (1200 + 2 * v) ||| upA (t (1200 + 2 * v))) ||| (t (1200 + 2 * v) >>> ((oI 1).toInt64 &&& 63))) ||| ((t (1200 + 2 * v + 1) &&& 1) <<< ((oI 59).toInt64 &&& 63))) ||| 0) ||| t (1200 + 2 * v + 2)) &&& t (1680 + 2 * v) := by rw [hgA, if_pos (show v = 0 by omega), if_neg (show ¬ v = 119 by omega)]
                          have xB : hgB t v = ((((t (1200 + 2 * v + 1) ||| upB (t (1200 + 2 * v)) (t (1200 + 2 * v + 1))) ||| dnB (t (1200 + 2 * v + 1))) ||| 0) ||| t (1200 + 2 * v + 3)) &&& t (1680 + 2 * v + 1) := by rw [hgB, if_pos (show v = 0 by omega), if_neg (show ¬ v = 119 by omega)]
                          have hmo : mo = false := h205
                          subst hmo
                          have hP2 := hP.ft hv (hg_diff hS hA2 hP.1.2.1 hv (fun q => h213 (xA.symm.trans q.1)))
                          refine V_cut [(0, some (.ref (E.1 (20, 0)))), (1, some (.int (bI true))), (2, some (.int (oI (((v + 1 : Nat) : Int) - 60))))] ⟨rfl, congrArg (fun q => some (Value.int q)) (by decide), congrArg (fun q => some (Value.int (oI q))) (by omega), trivial⟩ ?_
                          refine V_heap (D' := lU D 21 0 (hgT t v)) (by rw [lU_lU, lU_lU, hgT, xA, xB, lU_get]; rfl) ?_
                          exact ih (v + 1) true (hgT t v) _ (by omega) (e2.tr (Out5_hg t hv)) (AR_hg hS hA2 hv) hP2 (by omega)
                        · refine V_lload (pc := 216) hX rfl dX6_hangs_216 ?_
                          refine V_lload (pc := 218) hX rfl dX6_hangs_218 ?_
                          refine V_lcmp (pc := 220) hX dX6_hangs_220 ?_
                          refine L_if_eq (pc := 221) (tgt := 228) hX dX6_hangs_221 (by decide) (fun h221 => ?_) (fun h221 => ?_)
                          · refine V_iconst (pc := 228) (z := 0) hX (oI 0) rfl dX6_hangs_228 ?_
                            refine V_istore_n (pc := 229) (j := 1) hX 1 rfl (by decide) rfl dX6_hangs_229 ?_
                            refine V_aload_n (pc := 230) (j := 0) hX 0 rfl rfl dX6_hangs_230 ?_
                            refine gf_X6_7 (pc := 231) hX dX6_hangs_231 ?_
                            refine V_iload_n (pc := 234) (j := 3) hX 3 rfl rfl dX6_hangs_234 ?_
                            refine V_lload (pc := 235) hX rfl dX6_hangs_235 ?_
                            refine zs_21 (pc := 237) hX (1200 + 2 * v) (by omega) (by omega) dX6_hangs_237 ?_
                            refine V_aload_n (pc := 238) (j := 0) hX 0 rfl rfl dX6_hangs_238 ?_
                            refine gf_X6_7 (pc := 239) hX dX6_hangs_239 ?_
                            refine V_iload_n (pc := 242) (j := 3) hX 3 rfl rfl dX6_hangs_242 ?_
                            refine V_iconst (pc := 243) (z := 1) hX (oI 1) rfl dX6_hangs_243 ?_
                            refine Z_iadd (pc := 244) hX dX6_hangs_244 ?_
                            refine V_lload (pc := 245) hX rfl dX6_hangs_245 ?_
                            refine zs_21 (pc := 247) hX (1200 + 2 * v + 1) (by omega) (by omega) dX6_hangs_247 ?_
                            refine Z_iinc (pc := 248) hX 1 rfl rfl dX6_hangs_248 ?_
                            refine V_goto (pc := 251) (off := (-240)) (tgt := 11) hX (by decide) dX6_hangs_251 ?_
                            have xA : hgA t v = (((((t (1200 + 2 * v) ||| upA (t (1200 + 2 * v))) ||| (t (1200 + 2 * v) >>> ((oI 1).toInt64 &&& 63))) ||| ((t (1200 + 2 * v + 1) &&& 1) <<< ((oI 59).toInt64 &&& 63))) ||| 0) ||| t (1200 + 2 * v + 2)) &&& t (1680 + 2 * v) := by rw [hgA, if_pos (show v = 0 by omega), if_neg (show ¬ v = 119 by omega)]
                            have xB : hgB t v = ((((t (1200 + 2 * v + 1) ||| upB (t (1200 + 2 * v)) (t (1200 + 2 * v + 1))) ||| dnB (t (1200 + 2 * v + 1))) ||| 0) ||| t (1200 + 2 * v + 3)) &&& t (1680 + 2 * v + 1) := by rw [hgB, if_pos (show v = 0 by omega), if_neg (show ¬ v = 119 by omega)]
                            have hmo : mo = false := h205
                            subst hmo
                            have hP2 := hP.ff hv (hg_same hS hA2 hv (xA.trans h213) (xB.trans h221))
                            refine V_cut [(0, some (.ref (E.1 (20, 0)))), (1, some (.int (bI false))), (2, some (.int (oI (((v + 1 : Nat) : Int) - 60))))] ⟨rfl, congrArg (fun q => some (Value.int q)) (by decide), congrArg (fun q => some (Value.int (oI q))) (by omega), trivial⟩ ?_
                            refine V_heap (D' := lU D 21 0 (hgT t v)) (by rw [lU_lU, lU_lU, hgT, xA, xB, lU_get]; rfl) ?_
                            exact ih (v + 1) false (hgT t v) _ (by omega) (e2.tr (Out5_hg t hv)) (AR_hg hS hA2 hv) hP2 (by omega)
                          · refine V_iconst (pc := 224) (z := 1) hX (oI 1) rfl dX6_hangs_224 ?_
                            refine V_goto (pc := 225) (off := 4) (tgt := 229) hX (by decide) dX6_hangs_225 ?_
                            refine V_istore_n (pc := 229) (j := 1) hX 1 rfl (by decide) rfl dX6_hangs_229 ?_
                            refine V_aload_n (pc := 230) (j := 0) hX 0 rfl rfl dX6_hangs_230 ?_
                            refine gf_X6_7 (pc := 231) hX dX6_hangs_231 ?_
                            refine V_iload_n (pc := 234) (j := 3) hX 3 rfl rfl dX6_hangs_234 ?_
                            refine V_lload (pc := 235) hX rfl dX6_hangs_235 ?_
                            refine zs_21 (pc := 237) hX (1200 + 2 * v) (by omega) (by omega) dX6_hangs_237 ?_
                            refine V_aload_n (pc := 238) (j := 0) hX 0 rfl rfl dX6_hangs_238 ?_
                            refine gf_X6_7 (pc := 239) hX dX6_hangs_239 ?_
                            refine V_iload_n (pc := 242) (j := 3) hX 3 rfl rfl dX6_hangs_242 ?_
                            refine V_iconst (pc := 243) (z := 1) hX (oI 1) rfl dX6_hangs_243 ?_
                            refine Z_iadd (pc := 244) hX dX6_hangs_244 ?_
                            refine V_lload (pc := 245) hX rfl dX6_hangs_245 ?_
                            refine zs_21 (pc := 247) hX (1200 + 2 * v + 1) (by omega) (by omega) dX6_hangs_247 ?_
                            refine Z_iinc (pc := 248) hX 1 rfl rfl dX6_hangs_248 ?_
                            refine V_goto (pc := 251) (off := (-240)) (tgt := 11) hX (by decide) dX6_hangs_251 ?_
                            have xA : hgA t v = (((((t (1200 + 2 * v) ||| upA (t (1200 + 2 * v))) ||| (t (1200 + 2 * v) >>> ((oI 1).toInt64 &&& 63))) ||| ((t (1200 + 2 * v + 1) &&& 1) <<< ((oI 59).toInt64 &&& 63))) ||| 0) ||| t (1200 + 2 * v + 2)) &&& t (1680 + 2 * v) := by rw [hgA, if_pos (show v = 0 by omega), if_neg (show ¬ v = 119 by omega)]
                            have xB : hgB t v = ((((t (1200 + 2 * v + 1) ||| upB (t (1200 + 2 * v)) (t (1200 + 2 * v + 1))) ||| dnB (t (1200 + 2 * v + 1))) ||| 0) ||| t (1200 + 2 * v + 3)) &&& t (1680 + 2 * v + 1) := by rw [hgB, if_pos (show v = 0 by omega), if_neg (show ¬ v = 119 by omega)]
                            have hmo : mo = false := h205
                            subst hmo
                            have hP2 := hP.ft hv (hg_diff hS hA2 hP.1.2.1 hv (fun q => h221 (xB.symm.trans q.2)))
                            refine V_cut [(0, some (.ref (E.1 (20, 0)))), (1, some (.int (bI true))), (2, some (.int (oI (((v + 1 : Nat) : Int) - 60))))] ⟨rfl, congrArg (fun q => some (Value.int q)) (by decide), congrArg (fun q => some (Value.int (oI q))) (by omega), trivial⟩ ?_
                            refine V_heap (D' := lU D 21 0 (hgT t v)) (by rw [lU_lU, lU_lU, hgT, xA, xB, lU_get]; rfl) ?_
                            exact ih (v + 1) true (hgT t v) _ (by omega) (e2.tr (Out5_hg t hv)) (AR_hg hS hA2 hv) hP2 (by omega)
                  · omega
              · refine V_aload_n (pc := 76) (j := 0) hX 0 rfl rfl dX6_hangs_76 ?_
                refine gf_X6_7 (pc := 77) hX dX6_hangs_77 ?_
                refine V_iload_n (pc := 80) (j := 3) hX 3 rfl rfl dX6_hangs_80 ?_
                refine V_iconst (pc := 81) (z := 2) hX (oI 2) rfl dX6_hangs_81 ?_
                refine Z_isub (pc := 82) hX dX6_hangs_82 ?_
                refine zl_21 (pc := 83) hX (1200 + 2 * v - 2) (by omega) (by omega) dX6_hangs_83 ?_
                refine V_goto (pc := 84) (off := 4) (tgt := 88) hX (by decide) dX6_hangs_84 ?_
                refine V_lor (pc := 88) hX dX6_hangs_88 ?_
                refine V_iload_n (pc := 89) (j := 2) hX 2 rfl rfl dX6_hangs_89 ?_
                refine V_bipush (pc := 90) (z := 59) hX (oI 59) (by decide) dX6_hangs_90 ?_
                refine Z_icmp_ge (pc := 92) (tgt := 106) hX (by omega) (by omega) dX6_hangs_92 (by decide) (fun h92 => ?_) (fun h92 => ?_)
                · refine V_lconst (pc := 106) (z := 0) hX 0 (by decide) dX6_hangs_106 ?_
                  refine V_lor (pc := 107) hX dX6_hangs_107 ?_
                  refine V_lstore (pc := 108) hX (by decide) rfl dX6_hangs_108 ?_
                  refine V_lload (pc := 110) hX rfl dX6_hangs_110 ?_
                  refine V_lload (pc := 112) hX rfl dX6_hangs_112 ?_
                  refine V_iconst (pc := 114) (z := 1) hX (oI 1) rfl dX6_hangs_114 ?_
                  refine V_lshl (pc := 115) hX dX6_hangs_115 ?_
                  refine V_lload (pc := 116) hX rfl dX6_hangs_116 ?_
                  refine V_bipush (pc := 118) (z := 59) hX (oI 59) (by decide) dX6_hangs_118 ?_
                  refine V_lshr (pc := 120) hX dX6_hangs_120 ?_
                  refine V_lor (pc := 121) hX dX6_hangs_121 ?_
                  refine V_ldc2 (pc := 122) hX (1152921504606846975) w_888 dX6_hangs_122 ?_
                  refine V_land (pc := 125) hX dX6_hangs_125 ?_
                  refine V_lor (pc := 126) hX dX6_hangs_126 ?_
                  refine V_lload (pc := 127) hX rfl dX6_hangs_127 ?_
                  refine V_iconst (pc := 129) (z := 1) hX (oI 1) rfl dX6_hangs_129 ?_
                  refine V_lshr (pc := 130) hX dX6_hangs_130 ?_
                  refine V_lor (pc := 131) hX dX6_hangs_131 ?_
                  refine V_iload_n (pc := 132) (j := 2) hX 2 rfl rfl dX6_hangs_132 ?_
                  refine V_bipush (pc := 133) (z := (-60)) hX (oI (-60)) (by decide) dX6_hangs_133 ?_
                  refine Z_icmp_le (pc := 135) (tgt := 149) hX (by omega) (by omega) dX6_hangs_135 (by decide) (fun h135 => ?_) (fun h135 => ?_)
                  · omega
                  · refine V_aload_n (pc := 138) (j := 0) hX 0 rfl rfl dX6_hangs_138 ?_
                    refine gf_X6_7 (pc := 139) hX dX6_hangs_139 ?_
                    refine V_iload_n (pc := 142) (j := 3) hX 3 rfl rfl dX6_hangs_142 ?_
                    refine V_iconst (pc := 143) (z := 1) hX (oI 1) rfl dX6_hangs_143 ?_
                    refine Z_isub (pc := 144) hX dX6_hangs_144 ?_
                    refine zl_21 (pc := 145) hX (1200 + 2 * v - 1) (by omega) (by omega) dX6_hangs_145 ?_
                    refine V_goto (pc := 146) (off := 4) (tgt := 150) hX (by decide) dX6_hangs_146 ?_
                    refine V_lor (pc := 150) hX dX6_hangs_150 ?_
                    refine V_iload_n (pc := 151) (j := 2) hX 2 rfl rfl dX6_hangs_151 ?_
                    refine V_bipush (pc := 152) (z := 59) hX (oI 59) (by decide) dX6_hangs_152 ?_
                    refine Z_icmp_ge (pc := 154) (tgt := 168) hX (by omega) (by omega) dX6_hangs_154 (by decide) (fun h154 => ?_) (fun h154 => ?_)
                    · refine V_lconst (pc := 168) (z := 0) hX 0 (by decide) dX6_hangs_168 ?_
                      refine V_lor (pc := 169) hX dX6_hangs_169 ?_
                      refine V_lstore (pc := 170) hX (by decide) rfl dX6_hangs_170 ?_
                      refine V_lload (pc := 172) hX rfl dX6_hangs_172 ?_
                      refine V_aload_n (pc := 174) (j := 0) hX 0 rfl rfl dX6_hangs_174 ?_
                      refine gf_X6_7 (pc := 175) hX dX6_hangs_175 ?_
                      refine V_sipush (pc := 178) (z := 480) hX (oI 480) (by decide) dX6_hangs_178 ?_
                      refine V_iload_n (pc := 181) (j := 3) hX 3 rfl rfl dX6_hangs_181 ?_
                      refine Z_iadd (pc := 182) hX dX6_hangs_182 ?_
                      refine zl_21 (pc := 183) hX (1680 + 2 * v) (by omega) (by omega) dX6_hangs_183 ?_
                      refine V_land (pc := 184) hX dX6_hangs_184 ?_
                      refine V_lstore (pc := 185) hX (by decide) rfl dX6_hangs_185 ?_
                      refine V_lload (pc := 187) hX rfl dX6_hangs_187 ?_
                      refine V_aload_n (pc := 189) (j := 0) hX 0 rfl rfl dX6_hangs_189 ?_
                      refine gf_X6_7 (pc := 190) hX dX6_hangs_190 ?_
                      refine V_sipush (pc := 193) (z := 480) hX (oI 480) (by decide) dX6_hangs_193 ?_
                      refine V_iload_n (pc := 196) (j := 3) hX 3 rfl rfl dX6_hangs_196 ?_
                      refine Z_iadd (pc := 197) hX dX6_hangs_197 ?_
                      refine V_iconst (pc := 198) (z := 1) hX (oI 1) rfl dX6_hangs_198 ?_
                      refine Z_iadd (pc := 199) hX dX6_hangs_199 ?_
                      refine zl_21 (pc := 200) hX (1680 + 2 * v + 1) (by omega) (by omega) dX6_hangs_200 ?_
                      refine V_land (pc := 201) hX dX6_hangs_201 ?_
                      refine V_lstore (pc := 202) hX (by decide) rfl dX6_hangs_202 ?_
                      refine V_iload_n (pc := 204) (j := 1) hX 1 rfl rfl dX6_hangs_204 ?_
                      refine B_if_ne (pc := 205) (tgt := 224) hX dX6_hangs_205 (by decide) (fun h205 => ?_) (fun h205 => ?_)
                      · refine V_iconst (pc := 224) (z := 1) hX (oI 1) rfl dX6_hangs_224 ?_
                        refine V_goto (pc := 225) (off := 4) (tgt := 229) hX (by decide) dX6_hangs_225 ?_
                        refine V_istore_n (pc := 229) (j := 1) hX 1 rfl (by decide) rfl dX6_hangs_229 ?_
                        refine V_aload_n (pc := 230) (j := 0) hX 0 rfl rfl dX6_hangs_230 ?_
                        refine gf_X6_7 (pc := 231) hX dX6_hangs_231 ?_
                        refine V_iload_n (pc := 234) (j := 3) hX 3 rfl rfl dX6_hangs_234 ?_
                        refine V_lload (pc := 235) hX rfl dX6_hangs_235 ?_
                        refine zs_21 (pc := 237) hX (1200 + 2 * v) (by omega) (by omega) dX6_hangs_237 ?_
                        refine V_aload_n (pc := 238) (j := 0) hX 0 rfl rfl dX6_hangs_238 ?_
                        refine gf_X6_7 (pc := 239) hX dX6_hangs_239 ?_
                        refine V_iload_n (pc := 242) (j := 3) hX 3 rfl rfl dX6_hangs_242 ?_
                        refine V_iconst (pc := 243) (z := 1) hX (oI 1) rfl dX6_hangs_243 ?_
                        refine Z_iadd (pc := 244) hX dX6_hangs_244 ?_
                        refine V_lload (pc := 245) hX rfl dX6_hangs_245 ?_
                        refine zs_21 (pc := 247) hX (1200 + 2 * v + 1) (by omega) (by omega) dX6_hangs_247 ?_
                        refine Z_iinc (pc := 248) hX 1 rfl rfl dX6_hangs_248 ?_
                        refine V_goto (pc := 251) (off := (-240)) (tgt := 11) hX (by decide) dX6_hangs_251 ?_
                        have xA : hgA t v = (((((t (1200 + 2 * v) ||| upA (t (1200 + 2 * v))) ||| (t (1200 + 2 * v) >>> ((oI 1).toInt64 &&& 63))) ||| ((t (1200 + 2 * v + 1) &&& 1) <<< ((oI 59).toInt64 &&& 63))) ||| t (1200 + 2 * v - 2)) ||| 0) &&& t (1680 + 2 * v) := by rw [hgA, if_neg (show ¬ v = 0 by omega), if_pos (show v = 119 by omega)]
                        have xB : hgB t v = ((((t (1200 + 2 * v + 1) ||| upB (t (1200 + 2 * v)) (t (1200 + 2 * v + 1))) ||| dnB (t (1200 + 2 * v + 1))) ||| t (1200 + 2 * v - 1)) ||| 0) &&& t (1680 + 2 * v + 1) := by rw [hgB, if_neg (show ¬ v = 0 by omega), if_pos (show v = 119 by omega)]
                        have hmo : mo = true := h205
                        subst hmo
                        have hP2 := hP.t
                        refine V_cut [(0, some (.ref (E.1 (20, 0)))), (1, some (.int (bI true))), (2, some (.int (oI (((v + 1 : Nat) : Int) - 60))))] ⟨rfl, congrArg (fun q => some (Value.int q)) (by decide), congrArg (fun q => some (Value.int (oI q))) (by omega), trivial⟩ ?_
                        refine V_heap (D' := lU D 21 0 (hgT t v)) (by rw [lU_lU, lU_lU, hgT, xA, xB, lU_get]; rfl) ?_
                        exact ih (v + 1) true (hgT t v) _ (by omega) (e2.tr (Out5_hg t hv)) (AR_hg hS hA2 hv) hP2 (by omega)
                      · refine V_lload (pc := 208) hX rfl dX6_hangs_208 ?_
                        refine V_lload (pc := 210) hX rfl dX6_hangs_210 ?_
                        refine V_lcmp (pc := 212) hX dX6_hangs_212 ?_
                        refine L_if_ne (pc := 213) (tgt := 224) hX dX6_hangs_213 (by decide) (fun h213 => ?_) (fun h213 => ?_)
                        · refine V_iconst (pc := 224) (z := 1) hX (oI 1) rfl dX6_hangs_224 ?_
                          refine V_goto (pc := 225) (off := 4) (tgt := 229) hX (by decide) dX6_hangs_225 ?_
                          refine V_istore_n (pc := 229) (j := 1) hX 1 rfl (by decide) rfl dX6_hangs_229 ?_
                          refine V_aload_n (pc := 230) (j := 0) hX 0 rfl rfl dX6_hangs_230 ?_
                          refine gf_X6_7 (pc := 231) hX dX6_hangs_231 ?_
                          refine V_iload_n (pc := 234) (j := 3) hX 3 rfl rfl dX6_hangs_234 ?_
                          refine V_lload (pc := 235) hX rfl dX6_hangs_235 ?_
                          refine zs_21 (pc := 237) hX (1200 + 2 * v) (by omega) (by omega) dX6_hangs_237 ?_
                          refine V_aload_n (pc := 238) (j := 0) hX 0 rfl rfl dX6_hangs_238 ?_
                          refine gf_X6_7 (pc := 239) hX dX6_hangs_239 ?_
                          refine V_iload_n (pc := 242) (j := 3) hX 3 rfl rfl dX6_hangs_242 ?_
                          refine V_iconst (pc := 243) (z := 1) hX (oI 1) rfl dX6_hangs_243 ?_
                          refine Z_iadd (pc := 244) hX dX6_hangs_244 ?_
                          refine V_lload (pc := 245) hX rfl dX6_hangs_245 ?_
                          refine zs_21 (pc := 247) hX (1200 + 2 * v + 1) (by omega) (by omega) dX6_hangs_247 ?_
                          refine Z_iinc (pc := 248) hX 1 rfl rfl dX6_hangs_248 ?_
                          refine V_goto (pc := 251) (off := (-240)) (tgt := 11) hX (by decide) dX6_hangs_251 ?_
                          have xA : hgA t v = (((((t (1200 + 2 * v) ||| upA (t (1200 + 2 * v))) ||| (t (1200 + 2 * v) >>> ((oI 1).toInt64 &&& 63))) ||| ((t (1200 + 2 * v + 1) &&& 1) <<< ((oI 59).toInt64 &&& 63))) ||| t (1200 + 2 * v - 2)) ||| 0) &&& t (1680 + 2 * v) := by rw [hgA, if_neg (show ¬ v = 0 by omega), if_pos (show v = 119 by omega)]
                          have xB : hgB t v = ((((t (1200 + 2 * v + 1) ||| upB (t (1200 + 2 * v)) (t (1200 + 2 * v + 1))) ||| dnB (t (1200 + 2 * v + 1))) ||| t (1200 + 2 * v - 1)) ||| 0) &&& t (1680 + 2 * v + 1) := by rw [hgB, if_neg (show ¬ v = 0 by omega), if_pos (show v = 119 by omega)]
                          have hmo : mo = false := h205
                          subst hmo
                          have hP2 := hP.ft hv (hg_diff hS hA2 hP.1.2.1 hv (fun q => h213 (xA.symm.trans q.1)))
                          refine V_cut [(0, some (.ref (E.1 (20, 0)))), (1, some (.int (bI true))), (2, some (.int (oI (((v + 1 : Nat) : Int) - 60))))] ⟨rfl, congrArg (fun q => some (Value.int q)) (by decide), congrArg (fun q => some (Value.int (oI q))) (by omega), trivial⟩ ?_
                          refine V_heap (D' := lU D 21 0 (hgT t v)) (by rw [lU_lU, lU_lU, hgT, xA, xB, lU_get]; rfl) ?_
                          exact ih (v + 1) true (hgT t v) _ (by omega) (e2.tr (Out5_hg t hv)) (AR_hg hS hA2 hv) hP2 (by omega)
                        · refine V_lload (pc := 216) hX rfl dX6_hangs_216 ?_
                          refine V_lload (pc := 218) hX rfl dX6_hangs_218 ?_
                          refine V_lcmp (pc := 220) hX dX6_hangs_220 ?_
                          refine L_if_eq (pc := 221) (tgt := 228) hX dX6_hangs_221 (by decide) (fun h221 => ?_) (fun h221 => ?_)
                          · refine V_iconst (pc := 228) (z := 0) hX (oI 0) rfl dX6_hangs_228 ?_
                            refine V_istore_n (pc := 229) (j := 1) hX 1 rfl (by decide) rfl dX6_hangs_229 ?_
                            refine V_aload_n (pc := 230) (j := 0) hX 0 rfl rfl dX6_hangs_230 ?_
                            refine gf_X6_7 (pc := 231) hX dX6_hangs_231 ?_
                            refine V_iload_n (pc := 234) (j := 3) hX 3 rfl rfl dX6_hangs_234 ?_
                            refine V_lload (pc := 235) hX rfl dX6_hangs_235 ?_
                            refine zs_21 (pc := 237) hX (1200 + 2 * v) (by omega) (by omega) dX6_hangs_237 ?_
                            refine V_aload_n (pc := 238) (j := 0) hX 0 rfl rfl dX6_hangs_238 ?_
                            refine gf_X6_7 (pc := 239) hX dX6_hangs_239 ?_
                            refine V_iload_n (pc := 242) (j := 3) hX 3 rfl rfl dX6_hangs_242 ?_
                            refine V_iconst (pc := 243) (z := 1) hX (oI 1) rfl dX6_hangs_243 ?_
                            refine Z_iadd (pc := 244) hX dX6_hangs_244 ?_
                            refine V_lload (pc := 245) hX rfl dX6_hangs_245 ?_
                            refine zs_21 (pc := 247) hX (1200 + 2 * v + 1) (by omega) (by omega) dX6_hangs_247 ?_
                            refine Z_iinc (pc := 248) hX 1 rfl rfl dX6_hangs_248 ?_
                            refine V_goto (pc := 251) (off := (-240)) (tgt := 11) hX (by decide) dX6_hangs_251 ?_
                            have xA : hgA t v = (((((t (1200 + 2 * v) ||| upA (t (1200 + 2 * v))) ||| (t (1200 + 2 * v) >>> ((oI 1).toInt64 &&& 63))) ||| ((t (1200 + 2 * v + 1) &&& 1) <<< ((oI 59).toInt64 &&& 63))) ||| t (1200 + 2 * v - 2)) ||| 0) &&& t (1680 + 2 * v) := by rw [hgA, if_neg (show ¬ v = 0 by omega), if_pos (show v = 119 by omega)]
                            have xB : hgB t v = ((((t (1200 + 2 * v + 1) ||| upB (t (1200 + 2 * v)) (t (1200 + 2 * v + 1))) ||| dnB (t (1200 + 2 * v + 1))) ||| t (1200 + 2 * v - 1)) ||| 0) &&& t (1680 + 2 * v + 1) := by rw [hgB, if_neg (show ¬ v = 0 by omega), if_pos (show v = 119 by omega)]
                            have hmo : mo = false := h205
                            subst hmo
                            have hP2 := hP.ff hv (hg_same hS hA2 hv (xA.trans h213) (xB.trans h221))
                            refine V_cut [(0, some (.ref (E.1 (20, 0)))), (1, some (.int (bI false))), (2, some (.int (oI (((v + 1 : Nat) : Int) - 60))))] ⟨rfl, congrArg (fun q => some (Value.int q)) (by decide), congrArg (fun q => some (Value.int (oI q))) (by omega), trivial⟩ ?_
                            refine V_heap (D' := lU D 21 0 (hgT t v)) (by rw [lU_lU, lU_lU, hgT, xA, xB, lU_get]; rfl) ?_
                            exact ih (v + 1) false (hgT t v) _ (by omega) (e2.tr (Out5_hg t hv)) (AR_hg hS hA2 hv) hP2 (by omega)
                          · refine V_iconst (pc := 224) (z := 1) hX (oI 1) rfl dX6_hangs_224 ?_
                            refine V_goto (pc := 225) (off := 4) (tgt := 229) hX (by decide) dX6_hangs_225 ?_
                            refine V_istore_n (pc := 229) (j := 1) hX 1 rfl (by decide) rfl dX6_hangs_229 ?_
                            refine V_aload_n (pc := 230) (j := 0) hX 0 rfl rfl dX6_hangs_230 ?_
                            refine gf_X6_7 (pc := 231) hX dX6_hangs_231 ?_
                            refine V_iload_n (pc := 234) (j := 3) hX 3 rfl rfl dX6_hangs_234 ?_
                            refine V_lload (pc := 235) hX rfl dX6_hangs_235 ?_
                            refine zs_21 (pc := 237) hX (1200 + 2 * v) (by omega) (by omega) dX6_hangs_237 ?_
                            refine V_aload_n (pc := 238) (j := 0) hX 0 rfl rfl dX6_hangs_238 ?_
                            refine gf_X6_7 (pc := 239) hX dX6_hangs_239 ?_
                            refine V_iload_n (pc := 242) (j := 3) hX 3 rfl rfl dX6_hangs_242 ?_
                            refine V_iconst (pc := 243) (z := 1) hX (oI 1) rfl dX6_hangs_243 ?_
                            refine Z_iadd (pc := 244) hX dX6_hangs_244 ?_
                            refine V_lload (pc := 245) hX rfl dX6_hangs_245 ?_
                            refine zs_21 (pc := 247) hX (1200 + 2 * v + 1) (by omega) (by omega) dX6_hangs_247 ?_
                            refine Z_iinc (pc := 248) hX 1 rfl rfl dX6_hangs_248 ?_
                            refine V_goto (pc := 251) (off := (-240)) (tgt := 11) hX (by decide) dX6_hangs_251 ?_
                            have xA : hgA t v = (((((t (1200 + 2 * v) ||| upA (t (1200 + 2 * v))) ||| (t (1200 + 2 * v) >>> ((oI 1).toInt64 &&& 63))) ||| ((t (1200 + 2 * v + 1) &&& 1) <<< ((oI 59).toInt64 &&& 63))) ||| t (1200 + 2 * v - 2)) ||| 0) &&& t (1680 + 2 * v) := by rw [hgA, if_neg (show ¬ v = 0 by omega), if_pos (show v = 119 by omega)]
                            have xB : hgB t v = ((((t (1200 + 2 * v + 1) ||| upB (t (1200 + 2 * v)) (t (1200 + 2 * v + 1))) ||| dnB (t (1200 + 2 * v + 1))) ||| t (1200 + 2 * v - 1)) ||| 0) &&& t (1680 + 2 * v + 1) := by rw [hgB, if_neg (show ¬ v = 0 by omega), if_pos (show v = 119 by omega)]
                            have hmo : mo = false := h205
                            subst hmo
                            have hP2 := hP.ft hv (hg_diff hS hA2 hP.1.2.1 hv (fun q => h221 (xB.symm.trans q.2)))
                            refine V_cut [(0, some (.ref (E.1 (20, 0)))), (1, some (.int (bI true))), (2, some (.int (oI (((v + 1 : Nat) : Int) - 60))))] ⟨rfl, congrArg (fun q => some (Value.int q)) (by decide), congrArg (fun q => some (Value.int (oI q))) (by omega), trivial⟩ ?_
                            refine V_heap (D' := lU D 21 0 (hgT t v)) (by rw [lU_lU, lU_lU, hgT, xA, xB, lU_get]; rfl) ?_
                            exact ih (v + 1) true (hgT t v) _ (by omega) (e2.tr (Out5_hg t hv)) (AR_hg hS hA2 hv) hP2 (by omega)
                    · omega
                · refine V_aload_n (pc := 95) (j := 0) hX 0 rfl rfl dX6_hangs_95 ?_
                  refine gf_X6_7 (pc := 96) hX dX6_hangs_96 ?_
                  refine V_iload_n (pc := 99) (j := 3) hX 3 rfl rfl dX6_hangs_99 ?_
                  refine V_iconst (pc := 100) (z := 2) hX (oI 2) rfl dX6_hangs_100 ?_
                  refine Z_iadd (pc := 101) hX dX6_hangs_101 ?_
                  refine zl_21 (pc := 102) hX (1200 + 2 * v + 2) (by omega) (by omega) dX6_hangs_102 ?_
                  refine V_goto (pc := 103) (off := 4) (tgt := 107) hX (by decide) dX6_hangs_103 ?_
                  refine V_lor (pc := 107) hX dX6_hangs_107 ?_
                  refine V_lstore (pc := 108) hX (by decide) rfl dX6_hangs_108 ?_
                  refine V_lload (pc := 110) hX rfl dX6_hangs_110 ?_
                  refine V_lload (pc := 112) hX rfl dX6_hangs_112 ?_
                  refine V_iconst (pc := 114) (z := 1) hX (oI 1) rfl dX6_hangs_114 ?_
                  refine V_lshl (pc := 115) hX dX6_hangs_115 ?_
                  refine V_lload (pc := 116) hX rfl dX6_hangs_116 ?_
                  refine V_bipush (pc := 118) (z := 59) hX (oI 59) (by decide) dX6_hangs_118 ?_
                  refine V_lshr (pc := 120) hX dX6_hangs_120 ?_
                  refine V_lor (pc := 121) hX dX6_hangs_121 ?_
                  refine V_ldc2 (pc := 122) hX (1152921504606846975) w_888 dX6_hangs_122 ?_
                  refine V_land (pc := 125) hX dX6_hangs_125 ?_
                  refine V_lor (pc := 126) hX dX6_hangs_126 ?_
                  refine V_lload (pc := 127) hX rfl dX6_hangs_127 ?_
                  refine V_iconst (pc := 129) (z := 1) hX (oI 1) rfl dX6_hangs_129 ?_
                  refine V_lshr (pc := 130) hX dX6_hangs_130 ?_
                  refine V_lor (pc := 131) hX dX6_hangs_131 ?_
                  refine V_iload_n (pc := 132) (j := 2) hX 2 rfl rfl dX6_hangs_132 ?_
                  refine V_bipush (pc := 133) (z := (-60)) hX (oI (-60)) (by decide) dX6_hangs_133 ?_
                  refine Z_icmp_le (pc := 135) (tgt := 149) hX (by omega) (by omega) dX6_hangs_135 (by decide) (fun h135 => ?_) (fun h135 => ?_)
                  · omega
                  · refine V_aload_n (pc := 138) (j := 0) hX 0 rfl rfl dX6_hangs_138 ?_
                    refine gf_X6_7 (pc := 139) hX dX6_hangs_139 ?_
                    refine V_iload_n (pc := 142) (j := 3) hX 3 rfl rfl dX6_hangs_142 ?_
                    refine V_iconst (pc := 143) (z := 1) hX (oI 1) rfl dX6_hangs_143 ?_
                    refine Z_isub (pc := 144) hX dX6_hangs_144 ?_
                    refine zl_21 (pc := 145) hX (1200 + 2 * v - 1) (by omega) (by omega) dX6_hangs_145 ?_
                    refine V_goto (pc := 146) (off := 4) (tgt := 150) hX (by decide) dX6_hangs_146 ?_
                    refine V_lor (pc := 150) hX dX6_hangs_150 ?_
                    refine V_iload_n (pc := 151) (j := 2) hX 2 rfl rfl dX6_hangs_151 ?_
                    refine V_bipush (pc := 152) (z := 59) hX (oI 59) (by decide) dX6_hangs_152 ?_
                    refine Z_icmp_ge (pc := 154) (tgt := 168) hX (by omega) (by omega) dX6_hangs_154 (by decide) (fun h154 => ?_) (fun h154 => ?_)
                    · omega
                    · refine V_aload_n (pc := 157) (j := 0) hX 0 rfl rfl dX6_hangs_157 ?_
                      refine gf_X6_7 (pc := 158) hX dX6_hangs_158 ?_
                      refine V_iload_n (pc := 161) (j := 3) hX 3 rfl rfl dX6_hangs_161 ?_
                      refine V_iconst (pc := 162) (z := 3) hX (oI 3) rfl dX6_hangs_162 ?_
                      refine Z_iadd (pc := 163) hX dX6_hangs_163 ?_
                      refine zl_21 (pc := 164) hX (1200 + 2 * v + 3) (by omega) (by omega) dX6_hangs_164 ?_
                      refine V_goto (pc := 165) (off := 4) (tgt := 169) hX (by decide) dX6_hangs_165 ?_
                      refine V_lor (pc := 169) hX dX6_hangs_169 ?_
                      refine V_lstore (pc := 170) hX (by decide) rfl dX6_hangs_170 ?_
                      refine V_lload (pc := 172) hX rfl dX6_hangs_172 ?_
                      refine V_aload_n (pc := 174) (j := 0) hX 0 rfl rfl dX6_hangs_174 ?_
                      refine gf_X6_7 (pc := 175) hX dX6_hangs_175 ?_
                      refine V_sipush (pc := 178) (z := 480) hX (oI 480) (by decide) dX6_hangs_178 ?_
                      refine V_iload_n (pc := 181) (j := 3) hX 3 rfl rfl dX6_hangs_181 ?_
                      refine Z_iadd (pc := 182) hX dX6_hangs_182 ?_
                      refine zl_21 (pc := 183) hX (1680 + 2 * v) (by omega) (by omega) dX6_hangs_183 ?_
                      refine V_land (pc := 184) hX dX6_hangs_184 ?_
                      refine V_lstore (pc := 185) hX (by decide) rfl dX6_hangs_185 ?_
                      refine V_lload (pc := 187) hX rfl dX6_hangs_187 ?_
                      refine V_aload_n (pc := 189) (j := 0) hX 0 rfl rfl dX6_hangs_189 ?_
                      refine gf_X6_7 (pc := 190) hX dX6_hangs_190 ?_
                      refine V_sipush (pc := 193) (z := 480) hX (oI 480) (by decide) dX6_hangs_193 ?_
                      refine V_iload_n (pc := 196) (j := 3) hX 3 rfl rfl dX6_hangs_196 ?_
                      refine Z_iadd (pc := 197) hX dX6_hangs_197 ?_
                      refine V_iconst (pc := 198) (z := 1) hX (oI 1) rfl dX6_hangs_198 ?_
                      refine Z_iadd (pc := 199) hX dX6_hangs_199 ?_
                      refine zl_21 (pc := 200) hX (1680 + 2 * v + 1) (by omega) (by omega) dX6_hangs_200 ?_
                      refine V_land (pc := 201) hX dX6_hangs_201 ?_
                      refine V_lstore (pc := 202) hX (by decide) rfl dX6_hangs_202 ?_
                      refine V_iload_n (pc := 204) (j := 1) hX 1 rfl rfl dX6_hangs_204 ?_
                      refine B_if_ne (pc := 205) (tgt := 224) hX dX6_hangs_205 (by decide) (fun h205 => ?_) (fun h205 => ?_)
                      · refine V_iconst (pc := 224) (z := 1) hX (oI 1) rfl dX6_hangs_224 ?_
                        refine V_goto (pc := 225) (off := 4) (tgt := 229) hX (by decide) dX6_hangs_225 ?_
                        refine V_istore_n (pc := 229) (j := 1) hX 1 rfl (by decide) rfl dX6_hangs_229 ?_
                        refine V_aload_n (pc := 230) (j := 0) hX 0 rfl rfl dX6_hangs_230 ?_
                        refine gf_X6_7 (pc := 231) hX dX6_hangs_231 ?_
                        refine V_iload_n (pc := 234) (j := 3) hX 3 rfl rfl dX6_hangs_234 ?_
                        refine V_lload (pc := 235) hX rfl dX6_hangs_235 ?_
                        refine zs_21 (pc := 237) hX (1200 + 2 * v) (by omega) (by omega) dX6_hangs_237 ?_
                        refine V_aload_n (pc := 238) (j := 0) hX 0 rfl rfl dX6_hangs_238 ?_
                        refine gf_X6_7 (pc := 239) hX dX6_hangs_239 ?_
                        refine V_iload_n (pc := 242) (j := 3) hX 3 rfl rfl dX6_hangs_242 ?_
                        refine V_iconst (pc := 243) (z := 1) hX (oI 1) rfl dX6_hangs_243 ?_
                        refine Z_iadd (pc := 244) hX dX6_hangs_244 ?_
                        refine V_lload (pc := 245) hX rfl dX6_hangs_245 ?_
                        refine zs_21 (pc := 247) hX (1200 + 2 * v + 1) (by omega) (by omega) dX6_hangs_247 ?_
                        refine Z_iinc (pc := 248) hX 1 rfl rfl dX6_hangs_248 ?_
                        refine V_goto (pc := 251) (off := (-240)) (tgt := 11) hX (by decide) dX6_hangs_251 ?_
                        have xA : hgA t v = (((((t (1200 + 2 * v) ||| upA (t (1200 + 2 * v))) ||| (t (1200 + 2 * v) >>> ((oI 1).toInt64 &&& 63))) ||| ((t (1200 + 2 * v + 1) &&& 1) <<< ((oI 59).toInt64 &&& 63))) ||| t (1200 + 2 * v - 2)) ||| t (1200 + 2 * v + 2)) &&& t (1680 + 2 * v) := by rw [hgA, if_neg (show ¬ v = 0 by omega), if_neg (show ¬ v = 119 by omega)]
                        have xB : hgB t v = ((((t (1200 + 2 * v + 1) ||| upB (t (1200 + 2 * v)) (t (1200 + 2 * v + 1))) ||| dnB (t (1200 + 2 * v + 1))) ||| t (1200 + 2 * v - 1)) ||| t (1200 + 2 * v + 3)) &&& t (1680 + 2 * v + 1) := by rw [hgB, if_neg (show ¬ v = 0 by omega), if_neg (show ¬ v = 119 by omega)]
                        have hmo : mo = true := h205
                        subst hmo
                        have hP2 := hP.t
                        refine V_cut [(0, some (.ref (E.1 (20, 0)))), (1, some (.int (bI true))), (2, some (.int (oI (((v + 1 : Nat) : Int) - 60))))] ⟨rfl, congrArg (fun q => some (Value.int q)) (by decide), congrArg (fun q => some (Value.int (oI q))) (by omega), trivial⟩ ?_
                        refine V_heap (D' := lU D 21 0 (hgT t v)) (by rw [lU_lU, lU_lU, hgT, xA, xB, lU_get]; rfl) ?_
                        exact ih (v + 1) true (hgT t v) _ (by omega) (e2.tr (Out5_hg t hv)) (AR_hg hS hA2 hv) hP2 (by omega)
                      · refine V_lload (pc := 208) hX rfl dX6_hangs_208 ?_
                        refine V_lload (pc := 210) hX rfl dX6_hangs_210 ?_
                        refine V_lcmp (pc := 212) hX dX6_hangs_212 ?_
                        refine L_if_ne (pc := 213) (tgt := 224) hX dX6_hangs_213 (by decide) (fun h213 => ?_) (fun h213 => ?_)
                        · refine V_iconst (pc := 224) (z := 1) hX (oI 1) rfl dX6_hangs_224 ?_
                          refine V_goto (pc := 225) (off := 4) (tgt := 229) hX (by decide) dX6_hangs_225 ?_
                          refine V_istore_n (pc := 229) (j := 1) hX 1 rfl (by decide) rfl dX6_hangs_229 ?_
                          refine V_aload_n (pc := 230) (j := 0) hX 0 rfl rfl dX6_hangs_230 ?_
                          refine gf_X6_7 (pc := 231) hX dX6_hangs_231 ?_
                          refine V_iload_n (pc := 234) (j := 3) hX 3 rfl rfl dX6_hangs_234 ?_
                          refine V_lload (pc := 235) hX rfl dX6_hangs_235 ?_
                          refine zs_21 (pc := 237) hX (1200 + 2 * v) (by omega) (by omega) dX6_hangs_237 ?_
                          refine V_aload_n (pc := 238) (j := 0) hX 0 rfl rfl dX6_hangs_238 ?_
                          refine gf_X6_7 (pc := 239) hX dX6_hangs_239 ?_
                          refine V_iload_n (pc := 242) (j := 3) hX 3 rfl rfl dX6_hangs_242 ?_
                          refine V_iconst (pc := 243) (z := 1) hX (oI 1) rfl dX6_hangs_243 ?_
                          refine Z_iadd (pc := 244) hX dX6_hangs_244 ?_
                          refine V_lload (pc := 245) hX rfl dX6_hangs_245 ?_
                          refine zs_21 (pc := 247) hX (1200 + 2 * v + 1) (by omega) (by omega) dX6_hangs_247 ?_
                          refine Z_iinc (pc := 248) hX 1 rfl rfl dX6_hangs_248 ?_
                          refine V_goto (pc := 251) (off := (-240)) (tgt := 11) hX (by decide) dX6_hangs_251 ?_
                          have xA : hgA t v = (((((t (1200 + 2 * v) ||| upA (t (1200 + 2 * v))) ||| (t (1200 + 2 * v) >>> ((oI 1).toInt64 &&& 63))) ||| ((t (1200 + 2 * v + 1) &&& 1) <<< ((oI 59).toInt64 &&& 63))) ||| t (1200 + 2 * v - 2)) ||| t (1200 + 2 * v + 2)) &&& t (1680 + 2 * v) := by rw [hgA, if_neg (show ¬ v = 0 by omega), if_neg (show ¬ v = 119 by omega)]
                          have xB : hgB t v = ((((t (1200 + 2 * v + 1) ||| upB (t (1200 + 2 * v)) (t (1200 + 2 * v + 1))) ||| dnB (t (1200 + 2 * v + 1))) ||| t (1200 + 2 * v - 1)) ||| t (1200 + 2 * v + 3)) &&& t (1680 + 2 * v + 1) := by rw [hgB, if_neg (show ¬ v = 0 by omega), if_neg (show ¬ v = 119 by omega)]
                          have hmo : mo = false := h205
                          subst hmo
                          have hP2 := hP.ft hv (hg_diff hS hA2 hP.1.2.1 hv (fun q => h213 (xA.symm.trans q.1)))
                          refine V_cut [(0, some (.ref (E.1 (20, 0)))), (1, some (.int (bI true))), (2, some (.int (oI (((v + 1 : Nat) : Int) - 60))))] ⟨rfl, congrArg (fun q => some (Value.int q)) (by decide), congrArg (fun q => some (Value.int (oI q))) (by omega), trivial⟩ ?_
                          refine V_heap (D' := lU D 21 0 (hgT t v)) (by rw [lU_lU, lU_lU, hgT, xA, xB, lU_get]; rfl) ?_
                          exact ih (v + 1) true (hgT t v) _ (by omega) (e2.tr (Out5_hg t hv)) (AR_hg hS hA2 hv) hP2 (by omega)
                        · refine V_lload (pc := 216) hX rfl dX6_hangs_216 ?_
                          refine V_lload (pc := 218) hX rfl dX6_hangs_218 ?_
                          refine V_lcmp (pc := 220) hX dX6_hangs_220 ?_
                          refine L_if_eq (pc := 221) (tgt := 228) hX dX6_hangs_221 (by decide) (fun h221 => ?_) (fun h221 => ?_)
                          · refine V_iconst (pc := 228) (z := 0) hX (oI 0) rfl dX6_hangs_228 ?_
                            refine V_istore_n (pc := 229) (j := 1) hX 1 rfl (by decide) rfl dX6_hangs_229 ?_
                            refine V_aload_n (pc := 230) (j := 0) hX 0 rfl rfl dX6_hangs_230 ?_
                            refine gf_X6_7 (pc := 231) hX dX6_hangs_231 ?_
                            refine V_iload_n (pc := 234) (j := 3) hX 3 rfl rfl dX6_hangs_234 ?_
                            refine V_lload (pc := 235) hX rfl dX6_hangs_235 ?_
                            refine zs_21 (pc := 237) hX (1200 + 2 * v) (by omega) (by omega) dX6_hangs_237 ?_
                            refine V_aload_n (pc := 238) (j := 0) hX 0 rfl rfl dX6_hangs_238 ?_
                            refine gf_X6_7 (pc := 239) hX dX6_hangs_239 ?_
                            refine V_iload_n (pc := 242) (j := 3) hX 3 rfl rfl dX6_hangs_242 ?_
                            refine V_iconst (pc := 243) (z := 1) hX (oI 1) rfl dX6_hangs_243 ?_
                            refine Z_iadd (pc := 244) hX dX6_hangs_244 ?_
                            refine V_lload (pc := 245) hX rfl dX6_hangs_245 ?_
                            refine zs_21 (pc := 247) hX (1200 + 2 * v + 1) (by omega) (by omega) dX6_hangs_247 ?_
                            refine Z_iinc (pc := 248) hX 1 rfl rfl dX6_hangs_248 ?_
                            refine V_goto (pc := 251) (off := (-240)) (tgt := 11) hX (by decide) dX6_hangs_251 ?_
                            have xA : hgA t v = (((((t (1200 + 2 * v) ||| upA (t (1200 + 2 * v))) ||| (t (1200 + 2 * v) >>> ((oI 1).toInt64 &&& 63))) ||| ((t (1200 + 2 * v + 1) &&& 1) <<< ((oI 59).toInt64 &&& 63))) ||| t (1200 + 2 * v - 2)) ||| t (1200 + 2 * v + 2)) &&& t (1680 + 2 * v) := by rw [hgA, if_neg (show ¬ v = 0 by omega), if_neg (show ¬ v = 119 by omega)]
                            have xB : hgB t v = ((((t (1200 + 2 * v + 1) ||| upB (t (1200 + 2 * v)) (t (1200 + 2 * v + 1))) ||| dnB (t (1200 + 2 * v + 1))) ||| t (1200 + 2 * v - 1)) ||| t (1200 + 2 * v + 3)) &&& t (1680 + 2 * v + 1) := by rw [hgB, if_neg (show ¬ v = 0 by omega), if_neg (show ¬ v = 119 by omega)]
                            have hmo : mo = false := h205
                            subst hmo
                            have hP2 := hP.ff hv (hg_same hS hA2 hv (xA.trans h213) (xB.trans h221))
                            refine V_cut [(0, some (.ref (E.1 (20, 0)))), (1, some (.int (bI false))), (2, some (.int (oI (((v + 1 : Nat) : Int) - 60))))] ⟨rfl, congrArg (fun q => some (Value.int q)) (by decide), congrArg (fun q => some (Value.int (oI q))) (by omega), trivial⟩ ?_
                            refine V_heap (D' := lU D 21 0 (hgT t v)) (by rw [lU_lU, lU_lU, hgT, xA, xB, lU_get]; rfl) ?_
                            exact ih (v + 1) false (hgT t v) _ (by omega) (e2.tr (Out5_hg t hv)) (AR_hg hS hA2 hv) hP2 (by omega)
                          · refine V_iconst (pc := 224) (z := 1) hX (oI 1) rfl dX6_hangs_224 ?_
                            refine V_goto (pc := 225) (off := 4) (tgt := 229) hX (by decide) dX6_hangs_225 ?_
                            refine V_istore_n (pc := 229) (j := 1) hX 1 rfl (by decide) rfl dX6_hangs_229 ?_
                            refine V_aload_n (pc := 230) (j := 0) hX 0 rfl rfl dX6_hangs_230 ?_
                            refine gf_X6_7 (pc := 231) hX dX6_hangs_231 ?_
                            refine V_iload_n (pc := 234) (j := 3) hX 3 rfl rfl dX6_hangs_234 ?_
                            refine V_lload (pc := 235) hX rfl dX6_hangs_235 ?_
                            refine zs_21 (pc := 237) hX (1200 + 2 * v) (by omega) (by omega) dX6_hangs_237 ?_
                            refine V_aload_n (pc := 238) (j := 0) hX 0 rfl rfl dX6_hangs_238 ?_
                            refine gf_X6_7 (pc := 239) hX dX6_hangs_239 ?_
                            refine V_iload_n (pc := 242) (j := 3) hX 3 rfl rfl dX6_hangs_242 ?_
                            refine V_iconst (pc := 243) (z := 1) hX (oI 1) rfl dX6_hangs_243 ?_
                            refine Z_iadd (pc := 244) hX dX6_hangs_244 ?_
                            refine V_lload (pc := 245) hX rfl dX6_hangs_245 ?_
                            refine zs_21 (pc := 247) hX (1200 + 2 * v + 1) (by omega) (by omega) dX6_hangs_247 ?_
                            refine Z_iinc (pc := 248) hX 1 rfl rfl dX6_hangs_248 ?_
                            refine V_goto (pc := 251) (off := (-240)) (tgt := 11) hX (by decide) dX6_hangs_251 ?_
                            have xA : hgA t v = (((((t (1200 + 2 * v) ||| upA (t (1200 + 2 * v))) ||| (t (1200 + 2 * v) >>> ((oI 1).toInt64 &&& 63))) ||| ((t (1200 + 2 * v + 1) &&& 1) <<< ((oI 59).toInt64 &&& 63))) ||| t (1200 + 2 * v - 2)) ||| t (1200 + 2 * v + 2)) &&& t (1680 + 2 * v) := by rw [hgA, if_neg (show ¬ v = 0 by omega), if_neg (show ¬ v = 119 by omega)]
                            have xB : hgB t v = ((((t (1200 + 2 * v + 1) ||| upB (t (1200 + 2 * v)) (t (1200 + 2 * v + 1))) ||| dnB (t (1200 + 2 * v + 1))) ||| t (1200 + 2 * v - 1)) ||| t (1200 + 2 * v + 3)) &&& t (1680 + 2 * v + 1) := by rw [hgB, if_neg (show ¬ v = 0 by omega), if_neg (show ¬ v = 119 by omega)]
                            have hmo : mo = false := h205
                            subst hmo
                            have hP2 := hP.ft hv (hg_diff hS hA2 hP.1.2.1 hv (fun q => h221 (xB.symm.trans q.2)))
                            refine V_cut [(0, some (.ref (E.1 (20, 0)))), (1, some (.int (bI true))), (2, some (.int (oI (((v + 1 : Nat) : Int) - 60))))] ⟨rfl, congrArg (fun q => some (Value.int q)) (by decide), congrArg (fun q => some (Value.int (oI q))) (by omega), trivial⟩ ?_
                            refine V_heap (D' := lU D 21 0 (hgT t v)) (by rw [lU_lU, lU_lU, hgT, xA, xB, lU_get]; rfl) ?_
                            exact ih (v + 1) true (hgT t v) _ (by omega) (e2.tr (Out5_hg t hv)) (AR_hg hS hA2 hv) hP2 (by omega)
        refine V_iload_n (pc := 2) (j := 1) hX 1 rfl rfl dX6_hangs_2 ?_
        refine B_if_eq (pc := 3) (tgt := 257) hX dX6_hangs_3 (by decide) (fun h3 => ?_) (fun h3 => ?_)
        · exact absurd h3 (by decide)
        · refine V_iconst (pc := 6) (z := 0) hX (oI 0) rfl dX6_hangs_6 ?_
          refine V_istore_n (pc := 7) (j := 1) hX 1 rfl (by decide) rfl dX6_hangs_7 ?_
          refine V_bipush (pc := 8) (z := (-60)) hX (oI (-60)) (by decide) dX6_hangs_8 ?_
          refine V_istore_n (pc := 10) (j := 2) hX 2 rfl (by decide) rfl dX6_hangs_10 ?_
          refine V_cut [(0, some (.ref (E.1 (20, 0)))), (1, some (.int (bI false))), (2, some (.int (oI (((0 : Nat) : Int) - 60))))] ⟨rfl, congrArg (fun q => some (Value.int q)) (by decide), rfl, trivial⟩ ?_
          refine inner 121 0 false t P (by omega) e2 hS ⟨⟨i1, i2, i3⟩, fun i hi j hj q => q, fun q => (by cases q), fun _ => ⟨fun i hi j hj => rfl, fun j hj => absurd hj (Nat.not_lt_zero j)⟩⟩ (by omega)
  refine V_iconst (pc := 0) (z := 1) hX (oI 1) rfl dX6_hangs_0 ?_
  refine V_istore_n (pc := 1) (j := 1) hX 1 rfl (by decide) rfl dX6_hangs_1 ?_
  refine V_cut [(0, some (.ref (E.1 (20, 0)))), (1, some (.int (bI true)))] ⟨rfl, congrArg (fun q => some (Value.int q)) (by decide), trivial⟩ ?_
  refine V_heap (lU_self D 21 0).symm ?_
  exact outer 14401 true _ S0 (fun _ => ⟨Out5.rf _, hS0, fun i hi j hj q => q, hsub, fun U h1 _ => h1⟩) (fun q => (by cases q)) (fun _ => by omega)
