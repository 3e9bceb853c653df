/-! PARTS: how many, which -/
theorem lk_rho {S : Cl} {ρ : Nat → Nat} (hc : ∀ a, a < nsC S → ∀ b, b < nsC S → tch S a b → ρ a = ρ b) {a b : Nat} (ha : a < nsC S) (hb : b < nsC S) (h : Lk S a b) : ρ a = ρ b := by
  have hU := h (fun i j => @decide (∃ k, k < nsC S ∧ ρ k = ρ a ∧ inR S k i j) (Classical.propDecidable _)) (@decide_eq_true _ (Classical.propDecidable _) ⟨a, ha, rfl, (ci_rg ha).2.1⟩) (fun i hi j hj hS hn => by
    obtain ⟨x, y, ⟨hx, hy⟩, hV, -, hadj⟩ := nb4_ex hn
    obtain ⟨k, hk, e, hr⟩ := @of_decide_eq_true _ (Classical.propDecidable _) hV
    obtain ⟨k2, hk2, hr2⟩ := sp_ex hi hj hS
    refine @decide_eq_true _ (Classical.propDecidable _) ⟨k2, hk2, ?_, hr2⟩
    rcases Nat.lt_trichotomy k k2 with q | q | q
    · rw [← e]
      exact (hc k hk k2 hk2 (adj_lt q hk2 hr hr2 (by omega))).symm
    · rw [← q]; exact e
    · rw [← e]
      exact hc k2 hk2 k hk (adj_lt q hk hr2 hr (by omega)))
  obtain ⟨k, hk, e, hr⟩ := @of_decide_eq_true _ (Classical.propDecidable _) hU
  rw [← sp_uni hk hb hr (ci_rg hb).2.1]
  exact e.symm
/-- what is true only at the places g 0 < g 1 < .. -/
theorem ct_map {P : Nat → Bool} {g : Nat → Nat} {n N : Nat} (hg : ∀ a b, a < b → b < n → g a < g b) (hN : ∀ a, a < n → g a < N) (hP : ∀ e, e < N → P e = true → ∃ k, k < n ∧ g k = e) : fb_ct P N = fb_ct (fun k => P (g k)) n := by
  have flat : ∀ i m, (∀ e, i ≤ e → e < i + m → P e = false) → fb_ct P (i + m) = fb_ct P i := by
    intro i m
    induction m with
    | zero => exact fun _ => rfl
    | succ m ih =>
      intro h
      rw [← Nat.add_assoc, fb_ct_succ, ih (fun e h1 h2 => h e h1 (by omega)), h (i + m) (by omega) (by omega), if_neg Bool.false_ne_true, Nat.add_zero]
  have key : ∀ k, k < n → fb_ct P (g k) = fb_ct (fun k => P (g k)) k := by
    intro k
    induction k with
    | zero =>
      intro hk
      have := flat 0 (g 0) (fun e h1 h2 => by
        apply Bool.eq_false_iff.mpr
        intro q
        obtain ⟨t, ht, e2⟩ := hP e (by have := hN 0 hk; omega) q
        by_cases c : t = 0
        · subst c; omega
        · have := hg 0 t (by omega) ht; omega)
      rw [Nat.zero_add] at this
      rw [this]; rfl
    | succ k ih =>
      intro hk
      have h1 := hg k (k + 1) (by omega) hk
      have := flat (g k + 1) (g (k + 1) - (g k + 1)) (fun e h2 h3 => by
        apply Bool.eq_false_iff.mpr
        intro q
        obtain ⟨t, ht, e2⟩ := hP e (by have := hN (k + 1) hk; omega) q
        rcases Nat.lt_trichotomy t k with c | c | c
        · have := hg t k c (by omega); omega
        · subst c; omega
        · by_cases c2 : t = k + 1
          · subst c2; omega
          · have := hg (k + 1) t (by omega) ht; omega)
      rw [show g k + 1 + (g (k + 1) - (g k + 1)) = g (k + 1) by omega] at this
      rw [this, fb_ct_succ, fb_ct_succ, ih (by omega)]
  cases n with
  | zero =>
    have := flat 0 N (fun e _ h2 => by
      apply Bool.eq_false_iff.mpr
      intro q
      obtain ⟨t, ht, -⟩ := hP e (by omega) q
      omega)
    rw [Nat.zero_add] at this
    rw [this]; rfl
  | succ n =>
    have h1 := hN n (by omega)
    have := flat (g n + 1) (N - (g n + 1)) (fun e h2 h3 => by
      apply Bool.eq_false_iff.mpr
      intro q
      obtain ⟨t, ht, e2⟩ := hP e (by omega) q
      by_cases c : t = n
      · subst c; omega
      · have := hg t n (by omega) (by omega); omega)
    rw [show g n + 1 + (N - (g n + 1)) = N by omega] at this
    rw [this, fb_ct_succ, fb_ct_succ, key n (by omega)]
theorem ct_rows (f : Nat → Nat → Bool) : ∀ m, fb_sm (fun j => fb_ct (fun i => f i j) 120) m = fb_ct (fun e => f (e % 120) (e / 120)) (120 * m)
  | 0 => rfl
  | m + 1 => by
    rw [fb_sm_succ, ct_rows f m, show 120 * (m + 1) = 120 * m + 120 by omega, fb_ct_split]
    have e : fb_ct (fun i => f i m) 120 = fb_ct (fun i => f ((120 * m + i) % 120) ((120 * m + i) / 120)) 120 := fb_ct_cong (fun i hi => by
      rw [show (120 * m + i) % 120 = i by omega, show (120 * m + i) / 120 = m by omega])
    rw [e]
theorem e_lt {S : Cl} {a b : Nat} (h : a < b) (hb : b < nsC S) : 120 * cj S a + ci S a < 120 * cj S b + ci S b := by
  obtain ⟨ra, ia, -⟩ := ci_rg (S := S) (k := a) (by omega)
  obtain ⟨rb, ib, -⟩ := ci_rg hb
  have hd := sp_dis h hb ia ib
  have hl := sp_lt h hb
  rcases hl with ⟨l1, l2, l3⟩ | ⟨l1, l2⟩
  · have e : cj S a = cj S b := by unfold cj; rw [spV_2, spV_2, l2]
    omega
  · have : cj S a < cj S b := by omega
    omega
theorem first_t {S : Cl} {u v : Nat} : firstB S u v = true ↔ S u v = true ∧ Rem S u v u v := remC_t
theorem part_n {S : Cl} {ρ : Nat → Nat} (hρ : ∀ a, a < nsC S → ∀ b, b < nsC S → (ρ a = ρ b ↔ Lk S a b)) : nPart S = fb_ct (lsB ρ) (nsC S) := by
  rw [nPart, ct_rows, ct_map (g := fun k => 120 * cj S k + ci S k) (n := nsC S) (fun a b h hb => e_lt h hb) (fun a ha => by have := (ci_rg ha).1; omega)]
  · refine fb_ct_cong (fun k hk => ?_)
    obtain ⟨rk, ik, -⟩ := ci_rg hk
    rw [show (120 * cj S k + ci S k) % 120 = ci S k by omega, show (120 * cj S k + ci S k) / 120 = cj S k by omega, Bool.eq_iff_iff, first_t, lsB_t]
    constructor
    · rintro ⟨-, hR⟩ j hj e
      obtain ⟨rj, ij, -⟩ := ci_rg (S := S) (k := j) (by omega)
      have he := e_lt hj hk
      exact hR (ci S j) rj.1 (cj S j) rj.2 (by unfold bef; omega) (ci_in (by omega)) ((hρ j (by omega) k hk).mp e)
    · intro hl
      refine ⟨ci_in hk, fun x hx y hy hb hS hC => ?_⟩
      obtain ⟨t, ht, it⟩ := sp_ex hx hy hS
      have hlk : Lk S t k := Lk_cells ht hk it ik hC
      have htk : t < k := by
        rcases Nat.lt_trichotomy t k with c | c | c
        · exact c
        · exfalso
          subst c
          obtain ⟨-, -, q1, q2⟩ := ci_rg ht
          unfold bef at hb
          omega
        · exfalso
          have he := e_lt c ht
          obtain ⟨rt, -, q1, q2⟩ := ci_rg ht
          unfold bef at hb
          omega
      exact hl t htk ((hρ t ht k hk).mpr hlk)
  · intro e he hf
    rw [first_t] at hf
    obtain ⟨hS, hR⟩ := hf
    obtain ⟨k, hk, ik⟩ := sp_ex (show e % 120 < 120 by omega) (show e / 120 < 120 by omega) hS
    obtain ⟨rk, -, q1, q2⟩ := ci_rg hk
    refine ⟨k, hk, ?_⟩
    by_cases c : cj S k = e / 120 ∧ ci S k = e % 120
    · show 120 * cj S k + ci S k = e
      omega
    · exact absurd (cn_rect hk ik) (hR (ci S k) rk.1 (cj S k) rk.2 (by unfold bef; omega) (ci_in hk))
def PtQ (S : Cl) (D : Dt) (r : Int32) (D' : Dt) : Prop := r = oI (nPart S : Int) ∧ (∃ g, D' = rU D 11 g) ∧ ∃ (ρ : Nat → Nat) (c : Nat), UQ D' (nsC S) ρ c ∧ ∀ a, a < nsC S → ∀ b, b < nsC S → (ρ a = ρ b ↔ Lk S a b)
def PtI (S : Cl) (D : Dt) (k : Nat) (ρ : Nat → Nat) (c : Nat) (D1 : Dt) : Prop := (∃ g, D1 = rU D 11 g) ∧ JS S D1 k ρ c ∧ ∀ a, a < k → ∀ b, b < k → tch S a b → ρ a = ρ b
theorem PtI.nw {S : Cl} {D D1 : Dt} {k c : Nat} {ρ : Nat → Nat} (h : PtI S D k ρ c D1) (hk : k < nsC S) : JS S (rU D1 11 (upd (D1.1 11) k (oI (k : Int)))) (k + 1) (exR ρ k) (c + 1) := by
  obtain ⟨h1, h2, h3⟩ := h
  have el : ∀ i, i < k → exR ρ k i = ρ i := fun i hi => if_neg (by omega)
  have ek : exR ρ k k = k := if_pos rfl
  refine ⟨h2.1.nw, fun a ha b hb e => ?_⟩
  by_cases c1 : a = k
  · by_cases c2 : b = k
    · rw [c1, c2]; exact Cn.rf _ _ _
    · rw [c1, ek, el b (by omega)] at e
      have := h2.1.rg (show b < k by omega)
      omega
  · by_cases c2 : b = k
    · rw [c2, ek, el a (by omega)] at e
      have := h2.1.rg (show a < k by omega)
      omega
    · rw [el a (by omega), el b (by omega)] at e
      exact h2.2 a (by omega) b (by omega) e
theorem PtI.nx {S : Cl} {D D1 D2 : Dt} {k c c1 : Nat} {ρ ρ1 : Nat → Nat} (h : PtI S D k ρ c D1) (hk : k < nsC S) (h2 : JaI S (rU D1 11 (upd (D1.1 11) k (oI (k : Int)))) k (exR ρ k) (c + 1) 0 (k + 1) ρ1 c1 D2) : PtI S D (k + 1) ρ1 c1 D2 := by
  obtain ⟨⟨g0, e0⟩, h1, h3⟩ := h
  obtain ⟨⟨g1, e1⟩, j1, j2, j3, j4⟩ := h2
  refine ⟨⟨g1, by rw [e1, e0, rU_rU, rU_rU]⟩, j1, fun a ha b hb ht => ?_⟩
  have hab := tch_lt (show a < nsC S by omega) ht
  by_cases q : b = k
  · subst q; exact j4 a (by omega) ha ht
  · refine j3 a ha b hb ?_
    rw [exR, exR, if_neg (by omega), if_neg q]
    exact h3 a (by omega) b (by omega) ht
theorem PtI.fin {S : Cl} {D D1 : Dt} {c : Nat} {ρ : Nat → Nat} (h : PtI S D (nsC S) ρ c D1) : PtQ S D (oI (c : Int)) D1 := by
  obtain ⟨h1, h2, h3⟩ := h
  have hρ : ∀ a, a < nsC S → ∀ b, b < nsC S → (ρ a = ρ b ↔ Lk S a b) := fun a ha b hb => ⟨h2.2 a ha b hb, lk_rho h3 ha hb⟩
  refine ⟨?_, h1, ρ, c, h2.1, hρ⟩
  obtain ⟨f, d, -, -, u3⟩ := h2.1
  rw [part_n hρ, u3]
theorem c_X1_joinParts {E : Le} {l : Launch} {D : Dt} {S : Cl} (hF : FormP D S) : ConIp E l yX1_joinParts cX1_joinParts 3 (some .int) 4 [.ref (E.1 (5, 0))] D (PtQ S D) := by
  have hns := hF.2.2.1.2
  refine Con_of (by decide) (Nat.le_of_ble_eq_true rfl) ?_
  intro X hX hR hl; subst hl
  have loop : ∀ (m : Nat) (k : Nat) (ρ : Nat → Nat) (c : Nat) (D1 : Dt), k ≤ nsC S → PtI S D k ρ c D1 → nsC S - k < m → Vw E X 3 D1 7 [(0, some (.ref (E.1 (5, 0)))), (1, some (.int (oI ((nsC S : Int) - ((k : Nat) : Int) + ((c : Nat) : Int))))), (2, some (.int (oI (k : Int))))] [] := by
    intro m
    induction m with
    | zero => intro k ρ c D1 g1 g2 g3; omega
    | succ m ih =>
      intro k ρ c D1 g1 g2 g3
      obtain ⟨g0, hg0⟩ := g2.1
      have hF1 : FormP D1 S := by rw [hg0]; exact hF.u11 g0
      have hcl := g2.2.1.1.c_le
      refine V_iload_n (pc := 7) (j := 2) hX 2 rfl rfl dX1_joinParts_7 ?_
      refine V_aload_n (pc := 8) (j := 0) hX 0 rfl rfl dX1_joinParts_8 ?_
      refine gf_X1_34 (pc := 9) hX dX1_joinParts_9 ?_
      refine V_oI (nsC S : Int) hF1.2.1 ?_
      refine Z_icmp_ge (pc := 12) (tgt := 36) hX (by omega) (by omega) dX1_joinParts_12 (by decide) (fun h12 => ?_) (fun h12 => ?_)
      · refine V_iload_n (pc := 36) (j := 1) hX 1 rfl rfl dX1_joinParts_36 ?_
        refine V_iret (pc := 37) hX hR dX1_joinParts_37 ?_
        have e : k = nsC S := by omega
        subst e
        exact ⟨_, rfl, by rw [show (nsC S : Int) - ((nsC S : Nat) : Int) + ((c : Nat) : Int) = (c : Int) by omega]; exact g2.fin⟩
      · refine V_aload_n (pc := 15) (j := 0) hX 0 rfl rfl dX1_joinParts_15 ?_
        refine gf_X1_27 (pc := 16) hX dX1_joinParts_16 ?_
        refine V_iload_n (pc := 19) (j := 2) hX 2 rfl rfl dX1_joinParts_19 ?_
        refine V_iload_n (pc := 20) (j := 2) hX 2 rfl rfl dX1_joinParts_20 ?_
        refine zs_11 (pc := 21) hX (k) (by omega) (by omega) dX1_joinParts_21 ?_
        have hF2 := hF1.u11 (upd (D1.1 11) k (oI (k : Int)))
        refine V_iload_n (pc := 22) (j := 1) hX 1 rfl rfl dX1_joinParts_22 ?_
        refine V_aload_n (pc := 23) (j := 0) hX 0 rfl rfl dX1_joinParts_23 ?_
        refine V_iload_n (pc := 24) (j := 2) hX 2 rfl rfl dX1_joinParts_24 ?_
        refine cVIp1 (pc := 25) hX (c_X1_joinAbove (S := S) (k := k) (ρ := exR ρ k) (c := c + 1) hF2 (by omega) (g2.nw (by omega))) (by decide) st_X1_95 ix_5 rfl rfl rfl (Nat.le_of_ble_eq_true rfl) dX1_joinParts_25 (fun r25 D25 h25 => ?_)
        obtain ⟨ρ1, c1, rfl, hja⟩ := h25
        have hc1 := hja.2.2.1
        refine Z_isub (pc := 28) hX dX1_joinParts_28 ?_
        refine V_istore_n (pc := 29) (j := 1) hX 1 rfl (by decide) rfl dX1_joinParts_29 ?_
        refine Z_iinc (pc := 30) hX 1 rfl rfl dX1_joinParts_30 ?_
        refine V_goto (pc := 33) (off := (-26)) (tgt := 7) hX (by decide) dX1_joinParts_33 ?_
        refine V_cut [(0, some (.ref (E.1 (5, 0)))), (1, some (.int (oI ((nsC S : Int) - ((k + 1 : Nat) : Int) + ((c1 : Nat) : Int))))), (2, some (.int (oI ((k + 1 : Nat) : Int))))] ⟨rfl, congrArg (fun q => some (Value.int (oI q))) (by omega), rfl, trivial⟩ ?_
        exact ih (k + 1) ρ1 c1 _ (by omega) (g2.nx (by omega) hja) (by omega)
  refine V_aload_n (pc := 0) (j := 0) hX 0 rfl rfl dX1_joinParts_0 ?_
  refine gf_X1_34 (pc := 1) hX dX1_joinParts_1 ?_
  refine V_oI (nsC S : Int) hF.2.1 ?_
  refine V_istore_n (pc := 4) (j := 1) hX 1 rfl (by decide) rfl dX1_joinParts_4 ?_
  refine V_iconst (pc := 5) (z := 0) hX (oI 0) rfl dX1_joinParts_5 ?_
  refine V_istore_n (pc := 6) (j := 2) hX 2 rfl (by decide) rfl dX1_joinParts_6 ?_
  refine V_cut [(0, some (.ref (E.1 (5, 0)))), (1, some (.int (oI ((nsC S : Int) - ((0 : Nat) : Int) + ((0 : Nat) : Int))))), (2, some (.int (oI ((0 : Nat) : Int))))] ⟨rfl, congrArg (fun q => some (Value.int (oI q))) (by omega), rfl, trivial⟩ ?_
  refine loop (nsC S + 1) 0 (fun _ => 0) 0 D (by omega) ⟨⟨D.1 11, by rw [rU_self]⟩, ⟨⟨fun _ => 0, fun _ => 0, fun k hk => absurd hk (Nat.not_lt_zero k), fun k hk => absurd hk (Nat.not_lt_zero k), rfl⟩, fun a ha => absurd ha (Nat.not_lt_zero a)⟩, fun a ha => absurd ha (Nat.not_lt_zero a)⟩ (by omega)
theorem c_X1_leaderAt {E : Le} {l : Launch} {D : Dt} {S : Cl} {c k0 : Nat} {x y : Int} {ρ : Nat → Nat} (hF : FormP D S) (hU : UQ D (nsC S) ρ c) (hx : -60 ≤ x ∧ x ≤ 59) (hy : -60 ≤ y ∧ y ≤ 59) (hk0 : k0 < nsC S) (hin : inR S k0 (x + 60).toNat (y + 60).toNat) : ConI E l yX1_leaderAt cX1_leaderAt 4 (some .int) 2 [.ref (E.1 (5, 0)), .int (oI x), .int (oI y)] D (oI (ρ k0 : Int)) D := by
  have hns := hF.2.2.1.2
  refine Con_of (by decide) (Nat.le_of_ble_eq_true rfl) ?_
  intro X hX hR hl; subst hl
  have loop : ∀ (m : Nat) (k : Nat), k ≤ k0 → nsC S - k < m → Vw E X 4 D 2 [(0, some (.ref (E.1 (5, 0)))), (1, some (.int (oI x))), (2, some (.int (oI y))), (3, some (.int (oI (k : Int))))] [] := by
    intro m
    induction m with
    | zero => intro k g1 g2; omega
    | succ m ih =>
      intro k g1 g2
      refine V_iload_n (pc := 2) (j := 3) hX 3 rfl rfl dX1_leaderAt_2 ?_
      refine V_aload_n (pc := 3) (j := 0) hX 0 rfl rfl dX1_leaderAt_3 ?_
      refine gf_X1_34 (pc := 4) hX dX1_leaderAt_4 ?_
      refine V_oI (nsC S : Int) hF.2.1 ?_
      refine Z_icmp_ge (pc := 7) (tgt := 64) hX (by omega) (by omega) dX1_leaderAt_7 (by decide) (fun h7 => ?_) (fun h7 => ?_)
      · refine V_iconst (pc := 64) (z := (-1)) hX (oI (-1)) rfl dX1_leaderAt_64 ?_
        refine V_iret (pc := 65) hX hR dX1_leaderAt_65 ?_
        exfalso; omega
      · have rk := sp_rg (S := S) (k := k) (by omega)
        refine V_iload_n (pc := 10) (j := 1) hX 1 rfl rfl dX1_leaderAt_10 ?_
        refine V_aload_n (pc := 11) (j := 0) hX 0 rfl rfl dX1_leaderAt_11 ?_
        refine V_iload_n (pc := 12) (j := 3) hX 3 rfl rfl dX1_leaderAt_12 ?_
        refine V_iconst (pc := 13) (z := 0) hX (oI 0) rfl dX1_leaderAt_13 ?_
        refine cVI2 (pc := 14) hX (c_X1_spanSide (S := S) (k := k) hF (by omega) (by omega)) (by decide) st_X1_82 ix_5 rfl rfl rfl (Nat.le_of_ble_eq_true rfl) dX1_leaderAt_14 ?_
        refine V_aload_n (pc := 17) (j := 0) hX 0 rfl rfl dX1_leaderAt_17 ?_
        refine V_iload_n (pc := 18) (j := 3) hX 3 rfl rfl dX1_leaderAt_18 ?_
        refine V_iconst (pc := 19) (z := 1) hX (oI 1) rfl dX1_leaderAt_19 ?_
        refine cVI2 (pc := 20) hX (c_X1_spanSide (S := S) (k := k) hF (by omega) (by omega)) (by decide) st_X1_82 ix_5 rfl rfl rfl (Nat.le_of_ble_eq_true rfl) dX1_leaderAt_20 ?_
        refine V_iconst (pc := 23) (z := 1) hX (oI 1) rfl dX1_leaderAt_23 ?_
        refine Z_isub (pc := 24) hX dX1_leaderAt_24 ?_
        refine cNI3 (pc := 25) hX (c_X5_within (by omega) (by omega) (by omega)) (by decide) st_X1_108 (Nat.le_of_ble_eq_true rfl) dX1_leaderAt_25 ?_
        refine B_if_eq (pc := 28) (tgt := 58) hX dX1_leaderAt_28 (by decide) (fun h28 => ?_) (fun h28 => ?_)
        · refine Z_iinc (pc := 58) hX 1 rfl rfl dX1_leaderAt_58 ?_
          refine V_goto (pc := 61) (off := (-59)) (tgt := 2) hX (by decide) dX1_leaderAt_61 ?_
          refine V_cut [(0, some (.ref (E.1 (5, 0)))), (1, some (.int (oI x))), (2, some (.int (oI y))), (3, some (.int (oI ((k + 1 : Nat) : Int))))] ⟨rfl, rfl, rfl, rfl, trivial⟩ ?_
          have hq := inB_f.mp h28
          have hne : k ≠ k0 := fun q => by subst q; unfold inR at hin; omega
          exact ih (k + 1) (by omega) (by omega)
        · refine V_iload_n (pc := 31) (j := 2) hX 2 rfl rfl dX1_leaderAt_31 ?_
          refine V_aload_n (pc := 32) (j := 0) hX 0 rfl rfl dX1_leaderAt_32 ?_
          refine V_iload_n (pc := 33) (j := 3) hX 3 rfl rfl dX1_leaderAt_33 ?_
          refine V_iconst (pc := 34) (z := 2) hX (oI 2) rfl dX1_leaderAt_34 ?_
          refine cVI2 (pc := 35) hX (c_X1_spanSide (S := S) (k := k) hF (by omega) (by omega)) (by decide) st_X1_82 ix_5 rfl rfl rfl (Nat.le_of_ble_eq_true rfl) dX1_leaderAt_35 ?_
          refine V_aload_n (pc := 38) (j := 0) hX 0 rfl rfl dX1_leaderAt_38 ?_
          refine V_iload_n (pc := 39) (j := 3) hX 3 rfl rfl dX1_leaderAt_39 ?_
          refine V_iconst (pc := 40) (z := 3) hX (oI 3) rfl dX1_leaderAt_40 ?_
          refine cVI2 (pc := 41) hX (c_X1_spanSide (S := S) (k := k) hF (by omega) (by omega)) (by decide) st_X1_82 ix_5 rfl rfl rfl (Nat.le_of_ble_eq_true rfl) dX1_leaderAt_41 ?_
          refine V_iconst (pc := 44) (z := 1) hX (oI 1) rfl dX1_leaderAt_44 ?_
          refine Z_isub (pc := 45) hX dX1_leaderAt_45 ?_
          refine cNI3 (pc := 46) hX (c_X5_within (by omega) (by omega) (by omega)) (by decide) st_X1_108 (Nat.le_of_ble_eq_true rfl) dX1_leaderAt_46 ?_
          refine B_if_eq (pc := 49) (tgt := 58) hX dX1_leaderAt_49 (by decide) (fun h49 => ?_) (fun h49 => ?_)
          · refine Z_iinc (pc := 58) hX 1 rfl rfl dX1_leaderAt_58 ?_
            refine V_goto (pc := 61) (off := (-59)) (tgt := 2) hX (by decide) dX1_leaderAt_61 ?_
            refine V_cut [(0, some (.ref (E.1 (5, 0)))), (1, some (.int (oI x))), (2, some (.int (oI y))), (3, some (.int (oI ((k + 1 : Nat) : Int))))] ⟨rfl, rfl, rfl, rfl, trivial⟩ ?_
            have hq := inB_f.mp h49
            have hne : k ≠ k0 := fun q => by subst q; unfold inR at hin; omega
            exact ih (k + 1) (by omega) (by omega)
          · refine V_aload_n (pc := 52) (j := 0) hX 0 rfl rfl dX1_leaderAt_52 ?_
            refine V_iload_n (pc := 53) (j := 3) hX 3 rfl rfl dX1_leaderAt_53 ?_
            refine cVI1 (pc := 54) hX (c_X1_leader (k := k) hF.2.1 ⟨hns, Nat.le_refl _⟩ hU (by omega)) (by decide) st_X1_102 ix_5 rfl rfl rfl (Nat.le_of_ble_eq_true rfl) dX1_leaderAt_54 ?_
            refine V_iret (pc := 57) hX hR dX1_leaderAt_57 ?_
            have q1 := inB_t.mp h28
            have q2 := inB_t.mp h49
            have e : k = k0 := sp_uni (by omega) hk0 (show inR S k (x + 60).toNat (y + 60).toNat by unfold inR; omega) hin
            exact ⟨some_int (by rw [e]), rfl⟩
  refine V_iconst (pc := 0) (z := 0) hX (oI 0) rfl dX1_leaderAt_0 ?_
  refine V_istore_n (pc := 1) (j := 3) hX 3 rfl (by decide) rfl dX1_leaderAt_1 ?_
  refine V_cut [(0, some (.ref (E.1 (5, 0)))), (1, some (.int (oI x))), (2, some (.int (oI y))), (3, some (.int (oI ((0 : Nat) : Int))))] ⟨rfl, rfl, rfl, rfl, trivial⟩ ?_
  exact loop (nsC S + 1) 0 (by omega) (by omega)
def ptR (S : Cl) (ρ : Nat → Nat) (k0 k : Nat) : Int × Int × Int × Int := if ρ k = ρ k0 then (spV S 0 k, spV S 2 k, spV S 1 k, spV S 3 k) else (0, 0, 0, 0)
theorem pt_fi {S : Cl} {ρ : Nat → Nat} {k0 p q : Nat} (hρ : ∀ a, a < nsC S → ∀ b, b < nsC S → (ρ a = ρ b ↔ Lk S a b)) (hk0 : k0 < nsC S) (hin : inR S k0 p q) : ∀ i, i < 120 → ∀ j, j < 120 → fiC (ptR S ρ k0) (nsC S) i j = partC S p q i j := by
  intro i hi j hj
  rw [Bool.eq_iff_iff, fiC_t]
  show _ ↔ cnB S p q i j = true
  rw [cnB_t]
  constructor
  · rintro ⟨t, ht, h⟩
    by_cases e : ρ t = ρ k0
    · rw [ptR, if_pos e] at h
      exact cells_Lk hk0 ht hin h ((hρ k0 hk0 t ht).mp e.symm)
    · rw [ptR, if_neg e] at h
      dsimp only at h
      omega
  · intro h
    have hS : S i j = true := h S (inR_in hk0 hin).1 (fun _ _ _ _ w _ => w)
    obtain ⟨t, ht, it⟩ := sp_ex hi hj hS
    have e := (hρ k0 hk0 t ht).mpr (Lk_cells hk0 ht hin it h)
    refine ⟨t, ht, ?_⟩
    rw [ptR, if_pos e.symm]
    exact it
theorem pt_no {D : Dt} {z : Fin 11} {S : Cl} {ρ : Nat → Nat} {k0 k : Nat} (h : AC D z (fiC (ptR S ρ k0) k)) (hn : ¬ ρ k = ρ k0) : AC D z (fiC (ptR S ρ k0) (k + 1)) := by
  refine AR.congr h (fun i hi j hj => ?_)
  show _ = (fiC (ptR S ρ k0) k i j || decide _)
  rw [ptR, if_neg hn, decide_eq_false (by dsimp only; omega), Bool.or_false]
theorem UQ.fr {D D' : Dt} {m c : Nat} {ρ : Nat → Nat} (h : UQ D m ρ c) (e : D'.1 = D.1) : UQ D' m ρ c := by
  unfold UQ
  rw [e]
  exact h
theorem c_X1_layPart {E : Le} {l : Launch} {D : Dt} {z : Fin 11} {S : Cl} {c k0 : Nat} {x y : Int} {ρ : Nat → Nat} (hF : FormP D S) (hU : UQ D (nsC S) ρ c) (hx : -60 ≤ x ∧ x ≤ 59) (hy : -60 ≤ y ∧ y ≤ 59) (hk0 : k0 < nsC S) (hin : inR S k0 (x + 60).toNat (y + 60).toNat) (hρ : ∀ a, a < nsC S → ∀ b, b < nsC S → (ρ a = ρ b ↔ Lk S a b)) : ConVp E l yX1_layPart cX1_layPart 6 none 3 [.ref (E.1 (5, 0)), .ref (E.1 (1, z)), .int (oI x), .int (oI y)] D (fun D' => Az z D D' ∧ AC D' z (partC S (x + 60).toNat (y + 60).toNat)) := by
  have hns := hF.2.2.1.2
  have r0 := hU.rg hk0
  refine Con_of (by decide) (Nat.le_of_ble_eq_true rfl) ?_
  intro X hX hR hl; subst hl
  have loop : ∀ (m : Nat) (k : Nat) (D1 : Dt), k ≤ nsC S → Az z D D1 → AC D1 z (fiC (ptR S ρ k0) k) → nsC S - k < m → Vw E X 6 D1 15 [(0, some (.ref (E.1 (5, 0)))), (1, some (.ref (E.1 (1, z)))), (4, some (.int (oI (ρ k0 : Int)))), (5, some (.int (oI (k : Int))))] [] := by
    intro m
    induction m with
    | zero => intro k D1 g1 g2 g3 g4; omega
    | succ m ih =>
      intro k D1 g1 g2 g3 g4
      refine V_iload (pc := 15) hX rfl dX1_layPart_15 ?_
      refine V_aload_n (pc := 17) (j := 0) hX 0 rfl rfl dX1_layPart_17 ?_
      refine gf_X1_34 (pc := 18) hX dX1_layPart_18 ?_
      refine V_oI (nsC S : Int) (hF.fr g2.1).2.1 ?_
      refine Z_icmp_ge (pc := 21) (tgt := 73) hX (by omega) (by omega) dX1_layPart_21 (by decide) (fun h21 => ?_) (fun h21 => ?_)
      · refine V_vret (pc := 73) hX hR dX1_layPart_73 ?_
        have e : k = nsC S := by omega
        subst e
        exact ⟨rfl, g2, AR.congr g3 (pt_fi hρ hk0 hin)⟩
      · have hF1 := hF.fr g2.1
        have hr := sp_rg (S := S) (k := k) (by omega)
        have hU1 := hU.fr g2.1
        have rr := hU.rg (show k < nsC S by omega)
        refine V_aload_n (pc := 24) (j := 0) hX 0 rfl rfl dX1_layPart_24 ?_
        refine V_iload (pc := 25) hX rfl dX1_layPart_25 ?_
        refine cVI1 (pc := 27) hX (c_X1_leader (k := k) hF1.2.1 ⟨hns, Nat.le_refl _⟩ hU1 (by omega)) (by decide) st_X1_102 ix_5 rfl rfl rfl (Nat.le_of_ble_eq_true rfl) dX1_layPart_27 ?_
        refine V_iload (pc := 30) hX rfl dX1_layPart_30 ?_
        refine Z_icmp_ne (pc := 32) (tgt := 67) hX (by omega) (by omega) dX1_layPart_32 (by decide) (fun h32 => ?_) (fun h32 => ?_)
        · refine Z_iinc (pc := 67) hX 1 rfl rfl dX1_layPart_67 ?_
          refine V_goto (pc := 70) (off := (-55)) (tgt := 15) hX (by decide) dX1_layPart_70 ?_
          refine V_cut [(0, some (.ref (E.1 (5, 0)))), (1, some (.ref (E.1 (1, z)))), (4, some (.int (oI (ρ k0 : Int)))), (5, some (.int (oI ((k + 1 : Nat) : Int))))] ⟨rfl, rfl, rfl, rfl, trivial⟩ ?_
          exact ih (k + 1) _ (by omega) g2 (pt_no g3 (by omega)) (by omega)
        · refine V_aload_n (pc := 35) (j := 1) hX 1 rfl rfl dX1_layPart_35 ?_
          refine V_aload_n (pc := 36) (j := 0) hX 0 rfl rfl dX1_layPart_36 ?_
          refine V_iload (pc := 37) hX rfl dX1_layPart_37 ?_
          refine V_iconst (pc := 39) (z := 0) hX (oI 0) rfl dX1_layPart_39 ?_
          refine cVI2 (pc := 40) hX (c_X1_spanSide (S := S) (k := k) hF1 (by omega) (by omega)) (by decide) st_X1_82 ix_5 rfl rfl rfl (Nat.le_of_ble_eq_true rfl) dX1_layPart_40 ?_
          refine V_aload_n (pc := 43) (j := 0) hX 0 rfl rfl dX1_layPart_43 ?_
          refine V_iload (pc := 44) hX rfl dX1_layPart_44 ?_
          refine V_iconst (pc := 46) (z := 2) hX (oI 2) rfl dX1_layPart_46 ?_
          refine cVI2 (pc := 47) hX (c_X1_spanSide (S := S) (k := k) hF1 (by omega) (by omega)) (by decide) st_X1_82 ix_5 rfl rfl rfl (Nat.le_of_ble_eq_true rfl) dX1_layPart_47 ?_
          refine V_aload_n (pc := 50) (j := 0) hX 0 rfl rfl dX1_layPart_50 ?_
          refine V_iload (pc := 51) hX rfl dX1_layPart_51 ?_
          refine V_iconst (pc := 53) (z := 1) hX (oI 1) rfl dX1_layPart_53 ?_
          refine cVI2 (pc := 54) hX (c_X1_spanSide (S := S) (k := k) hF1 (by omega) (by omega)) (by decide) st_X1_82 ix_5 rfl rfl rfl (Nat.le_of_ble_eq_true rfl) dX1_layPart_54 ?_
          refine V_aload_n (pc := 57) (j := 0) hX 0 rfl rfl dX1_layPart_57 ?_
          refine V_iload (pc := 58) hX rfl dX1_layPart_58 ?_
          refine V_iconst (pc := 60) (z := 3) hX (oI 3) rfl dX1_layPart_60 ?_
          refine cVI2 (pc := 61) hX (c_X1_spanSide (S := S) (k := k) hF1 (by omega) (by omega)) (by decide) st_X1_82 ix_5 rfl rfl rfl (Nat.le_of_ble_eq_true rfl) dX1_layPart_61 ?_
          refine cVVp4 (pc := 64) hX (c_X0_fill (S := fiC (ptR S ρ k0) k) (by omega) (by omega) (by omega) (by omega) g3) (by decide) st_X1_91 (ix_1 _) rfl rfl rfl (Nat.le_of_ble_eq_true rfl) dX1_layPart_64 (fun D64 h64 => ?_)
          refine Z_iinc (pc := 67) hX 1 rfl rfl dX1_layPart_67 ?_
          refine V_goto (pc := 70) (off := (-55)) (tgt := 15) hX (by decide) dX1_layPart_70 ?_
          refine V_cut [(0, some (.ref (E.1 (5, 0)))), (1, some (.ref (E.1 (1, z)))), (4, some (.int (oI (ρ k0 : Int)))), (5, some (.int (oI ((k + 1 : Nat) : Int))))] ⟨rfl, rfl, rfl, rfl, trivial⟩ ?_
          refine ih (k + 1) _ (by omega) (g2.tr h64.1) ?_ (by omega)
          have h3 := h64.2
          show AC _ z (fillC _ _ _ _ _)
          rw [ptR, if_pos (show ρ k = ρ k0 by omega)]
          exact h3
  refine V_aload_n (pc := 0) (j := 0) hX 0 rfl rfl dX1_layPart_0 ?_
  refine V_iload_n (pc := 1) (j := 2) hX 2 rfl rfl dX1_layPart_1 ?_
  refine V_iload_n (pc := 2) (j := 3) hX 3 rfl rfl dX1_layPart_2 ?_
  refine cVI2 (pc := 3) hX (c_X1_leaderAt hF hU hx hy hk0 hin) (by decide) st_X1_105 ix_5 rfl rfl rfl (Nat.le_of_ble_eq_true rfl) dX1_layPart_3 ?_
  refine V_istore (pc := 6) hX (by decide) rfl dX1_layPart_6 ?_
  refine V_aload_n (pc := 8) (j := 1) hX 1 rfl rfl dX1_layPart_8 ?_
  refine cVVp0 (pc := 9) hX (c_X0_empty) (by decide) st_X1_88 (ix_1 _) rfl rfl rfl (Nat.le_of_ble_eq_true rfl) dX1_layPart_9 (fun D9 h9 => ?_)
  refine V_iconst (pc := 12) (z := 0) hX (oI 0) rfl dX1_layPart_12 ?_
  refine V_istore (pc := 13) hX (by decide) rfl dX1_layPart_13 ?_
  refine V_cut [(0, some (.ref (E.1 (5, 0)))), (1, some (.ref (E.1 (1, z)))), (4, some (.int (oI (ρ k0 : Int)))), (5, some (.int (oI ((0 : Nat) : Int))))] ⟨rfl, rfl, rfl, rfl, trivial⟩ ?_
  exact loop (nsC S + 1) 0 _ (by omega) h9.1 h9.2 (by omega)
theorem bdV_0 {S : Cl} (h : nsC S = 0) {wh : Int} (hw : 5 ≤ wh ∧ wh ≤ 8) : bdV S wh = -201 := by
  have hn := ns_0 h
  refine bdV_eq hw ⟨fun ⟨i, hi, j, hj, _, hS⟩ => ?_, fun i hi j hj _ hS => ?_, fun _ => rfl⟩
  · rw [hn i hi j hj] at hS; cases hS
  · rw [hn i hi j hj] at hS; cases hS
def MsQ (S : Cl) (D : Dt) (wh : Int) (r : Int32) (D' : Dt) : Prop := r = oI (ofV S wh) ∧ ∃ g, D' = rU D 11 g
theorem c_X1_measure {E : Le} {l : Launch} {D : Dt} {S : Cl} {wh : Int} (hF : FormP D S) (hw : (1 ≤ wh ∧ wh ≤ 3) ∨ (5 ≤ wh ∧ wh ≤ 8)) : ConIp E l yX1_measure cX1_measure 2 (some .int) 5 [.ref (E.1 (5, 0)), .int (oI wh)] D (MsQ S D wh) := by
  have hns := hF.2.2.1.2
  refine Con_of (by decide) (Nat.le_of_ble_eq_true rfl) ?_
  intro X hX hR hl; subst hl
  refine V_iload_n (pc := 0) (j := 1) hX 1 rfl rfl dX1_measure_0 ?_
  by_cases h1_1 : wh = 1
  · refine Z_tableIn (pc := 1) (tgt := 28) hX 1 h1_1 (by decide) (by decide) (by decide) dX1_measure_1 rfl (by decide) ?_
    refine V_aload_n (pc := 28) (j := 0) hX 0 rfl rfl dX1_measure_28 ?_
    refine gf_X1_30 (pc := 29) hX dX1_measure_29 ?_
    refine V_iret (pc := 32) hX hR dX1_measure_32 ?_
    exact ⟨_, rfl, by rw [hF.1, ofV, if_neg (by omega), if_pos h1_1], ⟨D.1 11, by rw [rU_self]⟩⟩
  by_cases h1_2 : wh = 2
  · refine Z_tableIn (pc := 1) (tgt := 33) hX 2 h1_2 (by decide) (by decide) (by decide) dX1_measure_1 rfl (by decide) ?_
    refine V_aload_n (pc := 33) (j := 0) hX 0 rfl rfl dX1_measure_33 ?_
    refine gf_X1_34 (pc := 34) hX dX1_measure_34 ?_
    refine V_iret (pc := 37) hX hR dX1_measure_37 ?_
    exact ⟨_, rfl, by rw [hF.2.1, ofV, if_neg (by omega), if_neg (by omega), if_pos h1_2], ⟨D.1 11, by rw [rU_self]⟩⟩
  by_cases h1_3 : wh = 3
  · refine Z_tableIn (pc := 1) (tgt := 38) hX 3 h1_3 (by decide) (by decide) (by decide) dX1_measure_1 rfl (by decide) ?_
    refine V_aload_n (pc := 38) (j := 0) hX 0 rfl rfl dX1_measure_38 ?_
    refine cVIp0 (pc := 39) hX (c_X1_joinParts hF) (by decide) st_X1_74 ix_5 rfl rfl rfl (Nat.le_of_ble_eq_true rfl) dX1_measure_39 (fun r39 D39 h39 => ?_)
    refine V_iret (pc := 42) hX hR dX1_measure_42 ?_
    exact ⟨_, rfl, by rw [h39.1, ofV, if_neg (by omega), if_neg (by omega), if_neg (by omega), if_pos h1_3], h39.2.1⟩
  refine Z_tableOut (pc := 1) (tgt := 43) hX (by omega) (by omega) dX1_measure_1 (by decide) ?_
  refine V_aload_n (pc := 43) (j := 0) hX 0 rfl rfl dX1_measure_43 ?_
  refine gf_X1_34 (pc := 44) hX dX1_measure_44 ?_
  refine V_oI (nsC S : Int) hF.2.1 ?_
  refine Z_if_ne (pc := 47) (tgt := 56) hX (by omega) dX1_measure_47 (by decide) (fun h47 => ?_) (fun h47 => ?_)
  · refine V_aload_n (pc := 56) (j := 0) hX 0 rfl rfl dX1_measure_56 ?_
    refine V_iload_n (pc := 57) (j := 1) hX 1 rfl rfl dX1_measure_57 ?_
    refine cVI1 (pc := 58) hX (c_X1_border hF (by omega) (by omega)) (by decide) st_X1_78 ix_5 rfl rfl rfl (Nat.le_of_ble_eq_true rfl) dX1_measure_58 ?_
    refine V_iret (pc := 61) hX hR dX1_measure_61 ?_
    exact ⟨_, rfl, by rw [ofV, if_neg (show ¬ wh = 0 by omega), if_neg (show ¬ wh = 1 by omega), if_neg (show ¬ wh = 2 by omega), if_neg (show ¬ wh = 3 by omega), if_neg (show ¬ wh = 4 by omega)], ⟨D.1 11, by rw [rU_self]⟩⟩
  · refine V_sipush (pc := 50) (z := (-201)) hX (oI (-201)) (by decide) dX1_measure_50 ?_
    refine V_goto (pc := 53) (off := 8) (tgt := 61) hX (by decide) dX1_measure_53 ?_
    refine V_iret (pc := 61) hX hR dX1_measure_61 ?_
    exact ⟨_, rfl, by rw [ofV, if_neg (show ¬ wh = 0 by omega), if_neg (show ¬ wh = 1 by omega), if_neg (show ¬ wh = 2 by omega), if_neg (show ¬ wh = 3 by omega), if_neg (show ¬ wh = 4 by omega), bdV_0 (by omega) (by omega)], ⟨D.1 11, by rw [rU_self]⟩⟩
