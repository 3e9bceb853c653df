/-! THE FORM: spans of a row out of its sides -/
def sdP (p : Int → Bool) (c : Nat) : Bool := p ((c : Int) - 60) ^^ p ((c : Int) - 61)
theorem rnX_in {p : Int → Bool} : ∀ (n : Nat) (x : Int), (60 - x).toNat ≤ n → ∀ u, x ≤ u → u < rnX p x → p u = true := by
  intro n
  induction n with
  | zero => intro x h u h1 h2; rw [rnX_f (by omega)] at h2; omega
  | succ n ih =>
    intro x h u h1 h2
    by_cases q : x ≤ 59 ∧ p x = true
    · by_cases e : u = x
      · rw [e]; exact q.2
      · rw [rnX_t q.1 q.2] at h2
        exact ih (x + 1) (by omega) u (by omega) h2
    · rw [rnX_f q] at h2; omega
theorem rnX_stop {p : Int → Bool} : ∀ (n : Nat) (x : Int), (60 - x).toNat ≤ n → x ≤ 60 → ¬ (rnX p x ≤ 59 ∧ p (rnX p x) = true) := by
  intro n
  induction n with
  | zero => intro x h h1; rw [rnX_f (by omega)]; omega
  | succ n ih =>
    intro x h h1
    by_cases q : x ≤ 59 ∧ p x = true
    · rw [rnX_t q.1 q.2]
      exact ih (x + 1) (by omega) (by omega)
    · rw [rnX_f q]; exact q
theorem sd_flat {p : Int → Bool} {i : Nat} : ∀ n, (∀ c, i ≤ c → c < i + n → sdP p c = false) → fb_ct (sdP p) (i + n) = fb_ct (sdP p) i
  | 0, _ => rfl
  | n + 1, h => by
    rw [show i + (n + 1) = (i + n) + 1 by omega, fb_ct_succ, h (i + n) (by omega) (by omega), sd_flat n (fun c h1 h2 => h c h1 (by omega))]
    rfl
/-- span by span, from place k on, in band b -/
def HS (D : Dt) (b : Nat) : Nat → List (Int × Int) → Prop
  | _, [] => True
  | k, u :: r => (D.1 9 k = oI (b : Int) ∧ D.1 10 (2 * k) = oI u.1 ∧ D.1 10 (2 * k + 1) = oI u.2) ∧ HS D b (k + 1) r
theorem HS_of {D : Dt} {p : Int → Bool} {b K : Nat} (hp : ∀ x, (x < -60 ∨ 59 < x) → p x = false) : ∀ (n : Nat) (x : Int) (m : Nat), (61 - x).toNat ≤ n → -60 ≤ x → x ≤ 61 → p (x - 1) = false → fb_ct (sdP p) (x + 60).toNat = 2 * m → fb_ct (sdP p) 121 = 2 * (m + (spX p x).length) ∧ ((∀ c, c < 121 → (x + 60).toNat ≤ c → sdP p c = true → D.1 10 (2 * K + fb_ct (sdP p) c) = oI ((c : Int) - 60)) → (∀ t, m ≤ t → t < m + (spX p x).length → D.1 9 (K + t) = oI (b : Int)) → HS D b (K + m) (spX p x)) := by
  intro n
  induction n with
  | zero =>
    intro x m h h1 h2 h3 h4
    have e : x = 61 := by omega
    subst e
    rw [spX_0 (by omega)]
    exact ⟨h4, fun _ _ => trivial⟩
  | succ n ih =>
    intro x m h h1 h2 h3 h4
    by_cases hx : x ≤ 59
    · have hg := rnX_ge p _ x (Nat.le_refl _)
      have hl := rnX_le p _ x (Nat.le_refl _) (by omega)
      have hin := rnX_in (p := p) _ x (Nat.le_refl _)
      have hst := rnX_stop (p := p) _ x (Nat.le_refl _) (by omega)
      have hz : p (rnX p x) = false := by
        by_cases q : rnX p x ≤ 59
        · exact Bool.eq_false_iff.mpr (fun w => hst ⟨q, w⟩)
        · exact hp _ (by omega)
      by_cases hr : x < rnX p x
      · rw [spX_t hx hr]
        have s0 : sdP p (x + 60).toNat = true := by
          rw [sdP, show (((x + 60).toNat : Nat) : Int) - 60 = x by omega, show (((x + 60).toNat : Nat) : Int) - 61 = x - 1 by omega, h3, hin x (by omega) hr]; rfl
        have s1 : sdP p (rnX p x + 60).toNat = true := by
          rw [sdP, show (((rnX p x + 60).toNat : Nat) : Int) - 60 = rnX p x by omega, show (((rnX p x + 60).toNat : Nat) : Int) - 61 = rnX p x - 1 by omega, hz, hin (rnX p x - 1) (by omega) (by omega)]; rfl
        have f0 : fb_ct (sdP p) ((x + 60).toNat + 1) = 2 * m + 1 := by rw [fb_ct_succ, h4, s0]; rfl
        have f1 : fb_ct (sdP p) (rnX p x + 60).toNat = 2 * m + 1 := by
          have q := sd_flat (p := p) (i := (x + 60).toNat + 1) ((rnX p x - x).toNat - 1) (fun c c1 c2 => by
            rw [sdP, hin _ (by omega) (by omega), hin _ (by omega) (by omega)]; rfl)
          rw [show (x + 60).toNat + 1 + ((rnX p x - x).toNat - 1) = (rnX p x + 60).toNat by omega, f0] at q
          exact q
        have f2 : fb_ct (sdP p) (rnX p x + 1 + 60).toNat = 2 * (m + 1) := by
          rw [show (rnX p x + 1 + 60).toNat = (rnX p x + 60).toNat + 1 by omega, fb_ct_succ, f1, s1, if_pos rfl]; omega
        have hi := ih (rnX p x + 1) (m + 1) (by omega) (by omega) (by omega) (by rw [show rnX p x + 1 - 1 = rnX p x by omega]; exact hz) f2
        refine ⟨by rw [hi.1, List.length_cons]; omega, fun h5 h6 => ?_⟩
        rw [List.length_cons] at h6
        refine ⟨⟨h6 m (by omega) (by omega), ?_, ?_⟩, hi.2 (fun c c1 c2 c3 => h5 c c1 (by omega) c3) (fun t t1 t2 => h6 t (by omega) (by omega))⟩
        · have := h5 (x + 60).toNat (by omega) (by omega) s0
          rw [h4, show 2 * K + 2 * m = 2 * (K + m) by omega, show (((x + 60).toNat : Nat) : Int) - 60 = x by omega] at this
          exact this
        · have := h5 (rnX p x + 60).toNat (by omega) (by omega) s1
          rw [f1, show 2 * K + (2 * m + 1) = 2 * (K + m) + 1 by omega, show (((rnX p x + 60).toNat : Nat) : Int) - 60 = rnX p x by omega] at this
          exact this
      · have e : rnX p x = x := by omega
        rw [spX_f hx hr]
        rw [e] at hz ⊢
        have s0 : sdP p (x + 60).toNat = false := by
          rw [sdP, show (((x + 60).toNat : Nat) : Int) - 60 = x by omega, show (((x + 60).toNat : Nat) : Int) - 61 = x - 1 by omega, h3, hz]; rfl
        have hi := ih (x + 1) m (by omega) (by omega) (by omega) (by rw [show x + 1 - 1 = x by omega]; exact hz) (by rw [show (x + 1 + 60).toNat = (x + 60).toNat + 1 by omega, fb_ct_succ, h4, s0]; rfl)
        exact ⟨hi.1, fun h5 h6 => hi.2 (fun c c1 c2 c3 => h5 c c1 (by omega) c3) h6⟩
    · rw [spX_0 (by omega)]
      refine ⟨?_, fun _ _ => trivial⟩
      by_cases q : x = 61
      · subst q; exact h4
      · have e : x = 60 := by omega
        subst e
        have s0 : sdP p 120 = false := by
          rw [sdP, show ((120 : Nat) : Int) - 60 = 60 by omega, show ((120 : Nat) : Int) - 61 = 60 - 1 by omega, h3, hp 60 (by omega)]; rfl
        have h4' : fb_ct (sdP p) 120 = 2 * m := h4
        rw [fb_ct_succ, s0, if_neg Bool.false_ne_true, Nat.add_zero, List.length_nil, Nat.add_zero]
        exact h4'
theorem rpC_out {S : Cl} {y : Int} : ∀ x, (x < -60 ∨ 59 < x) → rpC S y x = false := fun x h => by
  rw [rpC, cellB_f.mpr (by omega), Bool.false_and]
theorem sdP_pd {S : Cl} {j : Nat} (c : Nat) : sdP (rpC S ((j : Int) - 60)) c = (pd S (c + 1) (j + 1) ^^ pd S c (j + 1)) := by
  rw [sdP, rp_pd (i := c + 1) (j := j + 1) (by omega) (by omega), rp_pd (i := c) (j := j + 1) (by omega) (by omega)]
theorem row_len {S : Cl} {j : Nat} : hsC S j = 2 * (spX (rpC S ((j : Int) - 60)) (-60)).length := by
  have h := (HS_of (D := (fun _ _ => 0, fun _ _ _ => 0, fun _ _ => 0)) (p := rpC S ((j : Int) - 60)) (b := 0) (K := 0) rpC_out 200 (-60) 0 (by omega) (by omega) (by omega) (rpC_out _ (by omega)) rfl).1
  rw [Nat.zero_add] at h
  rw [← h, hsC]
  exact fb_ct_cong (fun c _ => (sdP_pd c).symm)
theorem row_HS {D : Dt} {S : Cl} {j b k : Nat} (h1 : ∀ c, c < 121 → sdP (rpC S ((j : Int) - 60)) c = true → D.1 10 (2 * k + fb_ct (sdP (rpC S ((j : Int) - 60))) c) = oI ((c : Int) - 60)) (h2 : ∀ t, t < (spX (rpC S ((j : Int) - 60)) (-60)).length → D.1 9 (k + t) = oI (b : Int)) : HS D b k (spX (rpC S ((j : Int) - 60)) (-60)) :=
  (HS_of (D := D) (p := rpC S ((j : Int) - 60)) (b := b) (K := k) rpC_out 200 (-60) 0 (by omega) (by omega) (by omega) (rpC_out _ (by omega)) rfl).2 (fun c c1 _ c3 => h1 c c1 c3) (fun t _ t2 => h2 t (by omega))

