/-! PARTS: who leads -/
def lsB (ρ : Nat → Nat) (k : Nat) : Bool := decide (∀ j, j < k → ρ j ≠ ρ k)
theorem lsB_t {ρ : Nat → Nat} {k : Nat} : lsB ρ k = true ↔ ∀ j, j < k → ρ j ≠ ρ k := decide_eq_true_iff
def mg (ρ : Nat → Nat) (j k : Nat) : Nat → Nat := fun i => if ρ i = ρ k then ρ j else ρ i
def UQ (D : Dt) (m : Nat) (ρ : Nat → Nat) (c : Nat) : Prop := ∃ (f d : Nat → Nat), (∀ k, k < m → D.1 11 k = oI (f k : Int)) ∧ (∀ k, k < m → f k < m ∧ (f k = k → ρ k = k ∧ d k = 0) ∧ (f k ≠ k → d k = d (f k) + 1 ∧ ρ k = ρ (f k)) ∧ (ρ k < m ∧ f (ρ k) = ρ k) ∧ d k + c ≤ m) ∧ c = fb_ct (lsB ρ) m
theorem ls_mg {ρ : Nat → Nat} {j k m : Nat} (hj : j < m) (hk : k < m) (hne : ρ j ≠ ρ k) : fb_ct (lsB (mg ρ j k)) m + 1 = fb_ct (lsB ρ) m := by
  obtain ⟨a0, ha, ea, la⟩ := fb_first (p := fun i => ρ i = ρ j) (n := m) ⟨j, hj, rfl⟩
  obtain ⟨b0, hb, eb, lb⟩ := fb_first (p := fun i => ρ i = ρ k) (n := m) ⟨k, hk, rfl⟩
  have hab : a0 ≠ b0 := fun e => hne (by rw [← ea, ← eb, e])
  have hx : ∀ i, i < m → lsB (mg ρ j k) i = (fun i => if i = max a0 b0 then false else lsB ρ i) i := by
    intro i hi
    show lsB (mg ρ j k) i = if i = max a0 b0 then false else lsB ρ i
    have ma : mg ρ j k a0 = ρ j := by rw [mg, if_neg (by rw [ea]; exact hne), ea]
    have mb : mg ρ j k b0 = ρ j := by rw [mg, if_pos eb]
    by_cases q : i = max a0 b0
    · rw [if_pos q]
      apply Bool.eq_false_iff.mpr
      intro w
      rw [lsB_t] at w
      by_cases c : a0 < b0
      · have e : i = b0 := by omega
        exact w a0 (by omega) (by rw [e, ma, mb])
      · have e : i = a0 := by omega
        exact w b0 (by omega) (by rw [e, ma, mb])
    · rw [if_neg q, Bool.eq_iff_iff, lsB_t, lsB_t]
      constructor
      · intro w t ht e
        exact w t ht (by rw [mg, mg, e])
      · intro w t ht e
        by_cases c1 : ρ i = ρ k
        · have hib : i = b0 := by
            rcases Nat.lt_trichotomy i b0 with h | h | h
            · exact absurd c1 (lb i h)
            · exact h
            · exact absurd (eb.trans c1.symm) (w b0 h)
          rw [mg, mg, if_pos c1] at e
          by_cases c2 : ρ t = ρ k
          · exact w t ht (c2.trans c1.symm)
          · rw [if_neg c2] at e
            have : ¬ t < a0 := fun h => la t h e
            omega
        · by_cases c2 : ρ t = ρ k
          · rw [mg, mg, if_neg c1, if_pos c2] at e
            have hia : i = a0 := by
              rcases Nat.lt_trichotomy i a0 with h | h | h
              · exact absurd e.symm (la i h)
              · exact h
              · exact absurd (ea.trans e) (w a0 h)
            have : ¬ t < b0 := fun h => lb t h c2
            omega
          · rw [mg, mg, if_neg c1, if_neg c2] at e
            exact w t ht e
  have hu := fb_ct_upd (lsB ρ) false (i := max a0 b0) (n := m) (by omega)
  have hm : lsB ρ (max a0 b0) = true := by
    rw [lsB_t]
    intro t ht e
    by_cases c : a0 < b0
    · rw [show max a0 b0 = b0 by omega, eb] at e
      exact lb t (by omega) e
    · rw [show max a0 b0 = a0 by omega, ea] at e
      exact la t (by omega) e
  rw [hm, if_pos rfl, if_neg Bool.false_ne_true, Nat.add_zero] at hu
  rw [fb_ct_cong hx]
  exact hu
theorem mg_same {ρ : Nat → Nat} {j k : Nat} (h : ρ j = ρ k) : mg ρ j k = ρ := by
  funext i
  show (if ρ i = ρ k then ρ j else ρ i) = ρ i
  by_cases c : ρ i = ρ k
  · rw [if_pos c, h, c]
  · rw [if_neg c]
theorem UQ.jn {D : Dt} {m c : Nat} {ρ : Nat → Nat} {j k : Nat} (h : UQ D m ρ c) (hj : j < m) (hk : k < m) : UQ (rU D 11 (upd (D.1 11) (ρ k) (oI (ρ j : Int)))) m (mg ρ j k) (if ρ j = ρ k then c else c - 1) := by
  obtain ⟨f, d, u1, u2, u3⟩ := h
  obtain ⟨-, -, -, ⟨j1, j2⟩, -⟩ := u2 j hj
  obtain ⟨-, -, -, ⟨k1, k2⟩, -⟩ := u2 k hk
  obtain ⟨jr, jd⟩ := (u2 (ρ j) j1).2.1 j2
  obtain ⟨kr, kd⟩ := (u2 (ρ k) k1).2.1 k2
  by_cases q : ρ j = ρ k
  · rw [if_pos q, mg_same q]
    refine ⟨f, d, fun i hi => ?_, u2, u3⟩
    rw [rU_get, upd_at]
    by_cases e : i = ρ k
    · rw [if_pos e, q, ← k2, ← e]
    · rw [if_neg e]; exact u1 i hi
  · rw [if_neg q]
    have hct := ls_mg hj hk q
    refine ⟨fun i => if i = ρ k then ρ j else f i, fun i => if ρ i = ρ k then d i + 1 else d i, fun i hi => ?_, fun i hi => ?_, by omega⟩
    · rw [rU_get, upd_at]
      show _ = oI ((if i = ρ k then ρ j else f i : Nat) : Int)
      by_cases e : i = ρ k
      · rw [if_pos e, if_pos e]
      · rw [if_neg e, if_neg e]; exact u1 i hi
    · obtain ⟨v1, v2, v3, ⟨v4, v5⟩, v6⟩ := u2 i hi
      dsimp only
      refine ⟨?_, fun e => ?_, fun e => ?_, ?_, ?_⟩
      · by_cases e : i = ρ k
        · rw [if_pos e]; exact j1
        · rw [if_neg e]; exact v1
      · by_cases e2 : i = ρ k
        · rw [if_pos e2] at e
          exact absurd (e.trans e2) q
        · rw [if_neg e2] at e
          obtain ⟨w1, w2⟩ := v2 e
          have w3 : ρ i ≠ ρ k := by rw [w1]; exact e2
          exact ⟨by rw [mg, if_neg w3]; exact w1, by rw [if_neg w3]; exact w2⟩
      · by_cases e2 : i = ρ k
        · rw [if_pos e2] at e ⊢
          rw [e2, kr, if_pos rfl, kd, jr, if_neg q, jd, mg, mg, kr, if_pos rfl, jr, if_neg q]
          exact ⟨rfl, rfl⟩
        · rw [if_neg e2] at e ⊢
          obtain ⟨w1, w2⟩ := v3 e
          rw [mg, mg, ← w2]
          refine ⟨?_, rfl⟩
          by_cases c3 : ρ i = ρ k
          · rw [if_pos c3, if_pos c3, w1]
          · rw [if_neg c3, if_neg c3, w1]
      · by_cases c3 : ρ i = ρ k
        · rw [mg, if_pos c3]
          exact ⟨j1, by rw [if_neg q]; exact j2⟩
        · rw [mg, if_neg c3]
          exact ⟨v4, by rw [if_neg c3]; exact v5⟩
      · by_cases c3 : ρ i = ρ k
        · rw [if_pos c3]; omega
        · rw [if_neg c3]; omega
theorem UQ.rg {D : Dt} {m c : Nat} {ρ : Nat → Nat} (h : UQ D m ρ c) {k : Nat} (hk : k < m) : ρ k < m := by
  obtain ⟨f, d, u1, u2, u3⟩ := h
  exact (u2 k hk).2.2.2.1.1
theorem UQ.c_le {D : Dt} {m c : Nat} {ρ : Nat → Nat} (h : UQ D m ρ c) : c ≤ m := by
  obtain ⟨f, d, u1, u2, u3⟩ := h
  rw [u3]; exact fb_ct_le _ m
/-- a new one leads itself -/
def exR (ρ : Nat → Nat) (k : Nat) : Nat → Nat := fun i => if i = k then k else ρ i
theorem UQ.nw {D : Dt} {c k : Nat} {ρ : Nat → Nat} (h : UQ D k ρ c) : UQ (rU D 11 (upd (D.1 11) k (oI (k : Int)))) (k + 1) (exR ρ k) (c + 1) := by
  obtain ⟨f, d, u1, u2, u3⟩ := h
  have el : ∀ i, i < k → exR ρ k i = ρ i := fun i hi => if_neg (by omega)
  have ek : exR ρ k k = k := if_pos rfl
  refine ⟨fun i => if i = k then k else f i, fun i => if i = k then 0 else d i, fun i hi => ?_, fun i hi => ?_, ?_⟩
  · rw [rU_get, upd_at]
    show _ = oI ((if i = k then k else f i : Nat) : Int)
    by_cases e : i = k
    · rw [if_pos e, if_pos e]
    · rw [if_neg e, if_neg e]; exact u1 i (by omega)
  · dsimp only
    by_cases e : i = k
    · subst e
      rw [if_pos rfl, if_pos rfl, ek, if_pos rfl]
      have : c ≤ i := by rw [u3]; exact fb_ct_le _ i
      exact ⟨by omega, fun _ => ⟨rfl, rfl⟩, fun w => absurd rfl w, ⟨by omega, rfl⟩, by omega⟩
    · obtain ⟨v1, v2, v3, ⟨v4, v5⟩, v6⟩ := u2 i (by omega)
      rw [if_neg e, if_neg e, if_neg (show ¬ f i = k by omega), el i (by omega), el (f i) v1, if_neg (show ¬ ρ i = k by omega)]
      exact ⟨by omega, v2, v3, ⟨by omega, v5⟩, by omega⟩
  · rw [fb_ct_succ, u3]
    have h1 : fb_ct (lsB (exR ρ k)) k = fb_ct (lsB ρ) k := fb_ct_cong (fun i hi => by
      rw [Bool.eq_iff_iff, lsB_t, lsB_t]
      exact ⟨fun w t ht => by have := w t ht; rw [el t (by omega), el i hi] at this; exact this, fun w t ht => by rw [el t (by omega), el i hi]; exact w t ht⟩)
    have h2 : lsB (exR ρ k) k = true := by
      rw [lsB_t]
      intro t ht
      rw [el t ht, ek]
      have := (u2 t ht).2.2.2.1.1
      omega
    rw [h1, h2, if_pos rfl]
theorem c_X1_leader {E : Le} {l : Launch} {D : Dt} {n m0 k c : Nat} {ρ : Nat → Nat} (hn : D.1 5 7 = oI (n : Int)) (hm : n ≤ 300 ∧ m0 ≤ n) (hU : UQ D m0 ρ c) (hk : k < m0) : ConI E l yX1_leader cX1_leader 4 (some .int) 1 [.ref (E.1 (5, 0)), .int (oI (k : Int))] D (oI (ρ k : Int)) D := by
  obtain ⟨f, d, u1, u2, u3⟩ := hU
  refine Con_of (by decide) (Nat.le_of_ble_eq_true rfl) ?_
  intro X hX hR hl; subst hl
  have loop : ∀ (m : Nat) (x s : Nat), x < m0 ∧ ρ x = ρ k → d x + s ≤ n → d x < m → Vw E X 4 D 4 [(0, some (.ref (E.1 (5, 0)))), (2, some (.int (oI ((x : Nat) : Int)))), (3, some (.int (oI ((s : Nat) : Int))))] [] := by
    intro m
    induction m with
    | zero => intro x s g1 g2 g3; omega
    | succ m ih =>
      intro x s g1 g2 g3
      refine V_iload_n (pc := 4) (j := 3) hX 3 rfl rfl dX1_leader_4 ?_
      refine V_aload_n (pc := 5) (j := 0) hX 0 rfl rfl dX1_leader_5 ?_
      refine gf_X1_34 (pc := 6) hX dX1_leader_6 ?_
      refine V_oI (n : Int) hn ?_
      refine Z_icmp_ge (pc := 9) (tgt := 35) hX (by omega) (by omega) dX1_leader_9 (by decide) (fun h9 => ?_) (fun h9 => ?_)
      · refine V_iload_n (pc := 35) (j := 2) hX 2 rfl rfl dX1_leader_35 ?_
        refine V_iret (pc := 36) hX hR dX1_leader_36 ?_
        obtain ⟨v1, v2, v3, v4, v5⟩ := u2 x (by omega)
        have e : f x = x := by
          by_cases q : f x = x
          · exact q
          · have := (v3 q).1; omega
        exact ⟨some_int (by rw [← g1.2, (v2 e).1]), rfl⟩
      · obtain ⟨v1, v2, v3, v4, v5⟩ := u2 x (by omega)
        refine V_aload_n (pc := 12) (j := 0) hX 0 rfl rfl dX1_leader_12 ?_
        refine gf_X1_27 (pc := 13) hX dX1_leader_13 ?_
        refine V_iload_n (pc := 16) (j := 2) hX 2 rfl rfl dX1_leader_16 ?_
        refine zl_11 (pc := 17) hX (x) (rfl) (by omega) dX1_leader_17 ?_
        refine V_oI (f x : Int) (u1 x (by omega)) ?_
        refine V_iload_n (pc := 18) (j := 2) hX 2 rfl rfl dX1_leader_18 ?_
        refine Z_icmp_eq (pc := 19) (tgt := 35) hX (by omega) (by omega) dX1_leader_19 (by decide) (fun h19 => ?_) (fun h19 => ?_)
        · refine V_iload_n (pc := 35) (j := 2) hX 2 rfl rfl dX1_leader_35 ?_
          refine V_iret (pc := 36) hX hR dX1_leader_36 ?_
          exact ⟨some_int (by rw [← g1.2, (v2 (by omega)).1]), rfl⟩
        · refine V_aload_n (pc := 22) (j := 0) hX 0 rfl rfl dX1_leader_22 ?_
          refine gf_X1_27 (pc := 23) hX dX1_leader_23 ?_
          refine V_iload_n (pc := 26) (j := 2) hX 2 rfl rfl dX1_leader_26 ?_
          refine zl_11 (pc := 27) hX (x) (rfl) (by omega) dX1_leader_27 ?_
          refine V_oI (f x : Int) (u1 x (by omega)) ?_
          refine V_istore_n (pc := 28) (j := 2) hX 2 rfl (by decide) rfl dX1_leader_28 ?_
          refine Z_iinc (pc := 29) hX 1 rfl rfl dX1_leader_29 ?_
          refine V_goto (pc := 32) (off := (-28)) (tgt := 4) hX (by decide) dX1_leader_32 ?_
          refine V_cut [(0, some (.ref (E.1 (5, 0)))), (2, some (.int (oI ((f x : Nat) : Int)))), (3, some (.int (oI ((s + 1 : Nat) : Int))))] ⟨rfl, rfl, rfl, trivial⟩ ?_
          obtain ⟨w1, w2⟩ := v3 (by omega)
          exact ih (f x) (s + 1) ⟨v1, by rw [← w2]; exact g1.2⟩ (by omega) (by omega)
  refine V_iload_n (pc := 0) (j := 1) hX 1 rfl rfl dX1_leader_0 ?_
  refine V_istore_n (pc := 1) (j := 2) hX 2 rfl (by decide) rfl dX1_leader_1 ?_
  refine V_iconst (pc := 2) (z := 0) hX (oI 0) rfl dX1_leader_2 ?_
  refine V_istore_n (pc := 3) (j := 3) hX 3 rfl (by decide) rfl dX1_leader_3 ?_
  refine V_cut [(0, some (.ref (E.1 (5, 0)))), (2, some (.int (oI ((k : Nat) : Int)))), (3, some (.int (oI ((0 : Nat) : Int))))] ⟨rfl, rfl, rfl, trivial⟩ ?_
  exact loop (d k + 1) k 0 ⟨hk, rfl⟩ (by have := (u2 k hk).2.2.2.2; omega) (by omega)
def JnQ (D : Dt) (m : Nat) (ρ : Nat → Nat) (c j k : Nat) (r : Int32) (D' : Dt) : Prop := r = bI (decide (ρ j ≠ ρ k)) ∧ (∃ g, D' = rU D 11 g) ∧ UQ D' m (mg ρ j k) (if ρ j = ρ k then c else c - 1)
theorem c_X1_join {E : Le} {l : Launch} {D : Dt} {n m0 j k c : Nat} {ρ : Nat → Nat} (hn : D.1 5 7 = oI (n : Int)) (hm : n ≤ 300 ∧ m0 ≤ n) (hU : UQ D m0 ρ c) (hj : j < m0) (hk : k < m0) : ConIp E l yX1_join cX1_join 5 (some .boolean) 2 [.ref (E.1 (5, 0)), .int (oI (j : Int)), .int (oI (k : Int))] D (JnQ D m0 ρ c j k) := by
  have rj := hU.rg hj
  have rk := hU.rg hk
  refine Con_of (by decide) (Nat.le_of_ble_eq_true rfl) ?_
  intro X hX hR hl; subst hl
  refine V_aload_n (pc := 0) (j := 0) hX 0 rfl rfl dX1_join_0 ?_
  refine V_iload_n (pc := 1) (j := 1) hX 1 rfl rfl dX1_join_1 ?_
  refine cVI1 (pc := 2) hX (c_X1_leader (k := j) hn hm hU hj) (by decide) st_X1_102 ix_5 rfl rfl rfl (Nat.le_of_ble_eq_true rfl) dX1_join_2 ?_
  refine V_istore_n (pc := 5) (j := 3) hX 3 rfl (by decide) rfl dX1_join_5 ?_
  refine V_aload_n (pc := 6) (j := 0) hX 0 rfl rfl dX1_join_6 ?_
  refine V_iload_n (pc := 7) (j := 2) hX 2 rfl rfl dX1_join_7 ?_
  refine cVI1 (pc := 8) hX (c_X1_leader (k := k) hn hm hU hk) (by decide) st_X1_102 ix_5 rfl rfl rfl (Nat.le_of_ble_eq_true rfl) dX1_join_8 ?_
  refine V_istore (pc := 11) hX (by decide) rfl dX1_join_11 ?_
  refine V_aload_n (pc := 13) (j := 0) hX 0 rfl rfl dX1_join_13 ?_
  refine gf_X1_27 (pc := 14) hX dX1_join_14 ?_
  refine V_iload (pc := 17) hX rfl dX1_join_17 ?_
  refine V_iload_n (pc := 19) (j := 3) hX 3 rfl rfl dX1_join_19 ?_
  refine zs_11 (pc := 20) hX (ρ k) (rfl) (by omega) dX1_join_20 ?_
  refine V_iload_n (pc := 21) (j := 3) hX 3 rfl rfl dX1_join_21 ?_
  refine V_iload (pc := 22) hX rfl dX1_join_22 ?_
  refine Z_icmp_eq (pc := 24) (tgt := 31) hX (by omega) (by omega) dX1_join_24 (by decide) (fun h24 => ?_) (fun h24 => ?_)
  · refine V_iconst (pc := 31) (z := 0) hX (oI 0) rfl dX1_join_31 ?_
    refine V_zret (pc := 32) hX hR (by decide) dX1_join_32 ?_
    exact ⟨_, rfl, bI_0 (decide_eq_false (fun q => q (by omega))), ⟨_, rfl⟩, hU.jn hj hk⟩
  · refine V_iconst (pc := 27) (z := 1) hX (oI 1) rfl dX1_join_27 ?_
    refine V_goto (pc := 28) (off := 4) (tgt := 32) hX (by decide) dX1_join_28 ?_
    refine V_zret (pc := 32) hX hR (by decide) dX1_join_32 ?_
    exact ⟨_, rfl, bI_1 (decide_eq_true (by omega)), ⟨_, rfl⟩, hU.jn hj hk⟩
