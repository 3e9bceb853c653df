/-! areas as sets of cells i, j (from 0 on) -/
abbrev Cl : Type := Nat → Nat → Bool
def AR (s : Nat → Int64) (a : Nat) (S : Cl) : Prop := (∀ k, k < 240 → b60 (s (240 * a + k))) ∧ ∀ i, i < 120 → ∀ j, j < 120 → cM s a i j = S i j
def Out5 (s s' : Nat → Int64) : Prop := ∀ k, (k < 1200 ∨ 1440 ≤ k) → s' k = s k
theorem Out5.rf (s : Nat → Int64) : Out5 s s := fun _ _ => rfl
theorem Out5.tr {s t u : Nat → Int64} (h : Out5 s t) (h2 : Out5 t u) : Out5 s u := fun k hk => (h2 k hk).trans (h k hk)
theorem AR.congr {s : Nat → Int64} {a : Nat} {S T : Cl} (h : AR s a S) (e : ∀ i, i < 120 → ∀ j, j < 120 → S i j = T i j) : AR s a T := ⟨h.1, fun i hi j hj => (h.2 i hi j hj).trans (e i hi j hj)⟩
theorem AR.same {s t : Nat → Int64} {a b : Nat} {S : Cl} (h : AR s a S) (e : ∀ k, k < 240 → t (240 * b + k) = s (240 * a + k)) : AR t b S := by
  refine ⟨fun k hk => by rw [e k hk]; exact h.1 k hk, fun i hi j hj => ?_⟩
  rw [← h.2 i hi j hj, cM, cM, show 240 * b + 2 * j + i / 60 = 240 * b + (2 * j + i / 60) by omega, e _ (by omega), Nat.add_assoc]
theorem AR_empty {s : Nat → Int64} {a : Nat} : AR (blk s a (fun _ => 0) 240) a (fun _ _ => false) := by
  refine ⟨fun k hk => by rw [blk_in hk]; exact b60_0, fun i hi j hj => ?_⟩
  rw [cM, Nat.add_assoc, blk_in (by omega)]
  exact tb_0 _
theorem tb_bitL {k i : Nat} (h : k < 60) : tb (bitL k) i = decide (i = k) := by
  rw [bitL, tb_shl _ (by omega), tb_1]
  by_cases q : i = k
  · subst q; simp; omega
  · simp [q]; omega
theorem AR_set {s : Nat → Int64} {a i0 j0 : Nat} {S : Cl} (hi0 : i0 < 120) (hj0 : j0 < 120) (h : AR s a S) : AR (setM s a i0 j0) a (fun i j => S i j || decide (i = i0 ∧ j = j0)) := by
  refine ⟨fun k hk => ?_, fun i hi j hj => ?_⟩
  · show b60 (if 240 * a + k = 240 * a + 2 * j0 + i0 / 60 then _ else _)
    by_cases q : 240 * a + k = 240 * a + 2 * j0 + i0 / 60
    · rw [if_pos q, ← q]
      intro m hm
      rw [tb_or, h.1 k hk m hm, tb_bitL (by omega)]
      simp; omega
    · rw [if_neg q]; exact h.1 k hk
  · show tb (if 240 * a + 2 * j + i / 60 = 240 * a + 2 * j0 + i0 / 60 then _ else _) _ = (S i j || decide (i = i0 ∧ j = j0))
    rw [← h.2 i hi j hj, cM]
    by_cases q : 240 * a + 2 * j + i / 60 = 240 * a + 2 * j0 + i0 / 60
    · rw [if_pos q, q, tb_or, tb_bitL (by omega)]
      congr 1
      exact decide_eq_decide.mpr (by omega)
    · rw [if_neg q, decide_eq_false (by omega : ¬ (i = i0 ∧ j = j0)), Bool.or_false]
theorem Out5_set {s : Nat → Int64} {i j : Nat} (hi : i < 120) (hj : j < 120) : Out5 s (setM s 5 i j) := by
  intro k hk
  show (if k = 240 * 5 + 2 * j + i / 60 then _ else _) = _
  rw [if_neg (by omega)]
theorem Out5_blk {s : Nat → Int64} {g : Nat → Int64} : Out5 s (blk s 5 g 240) := fun k hk => blk_out (by omega)
theorem orD (p q : Prop) [Decidable p] [Decidable q] : (decide p || decide q) = decide (p ∨ q) := by
  by_cases h : p <;> by_cases h2 : q <;> simp [h, h2]
theorem orS {b : Bool} {p q r : Prop} [Decidable p] [Decidable q] [Decidable r] (h : (p ∨ q) ↔ r) : ((b || decide p) || decide q) = (b || decide r) := by
  rw [Bool.or_assoc, orD, decide_eq_decide.mpr h]
theorem orE {b : Bool} {p q : Prop} [Decidable p] [Decidable q] (h : p ↔ q) : (b || decide p) = (b || decide q) := by rw [decide_eq_decide.mpr h]
def boxC (x y w h : Int) : Cl := fun i j => decide ((y + 60 ≤ (j : Int) ∧ (j : Int) < y + h + 60) ∧ x + 60 ≤ (i : Int) ∧ (i : Int) < x + w + 60)
theorem c_X6_fills {E : Le} {l : Launch} {D : Dt} {S : Cl} {x y w h : Int} (hx : -60 ≤ x ∧ 0 ≤ w ∧ x + w ≤ 60) (hy : -60 ≤ y ∧ 0 ≤ h ∧ y + h ≤ 60) (hS : AR (D.2.1 21 0) 5 S) : ConVp E l yX6_fills cX6_fills 7 none 2 [.ref (E.1 (20, 0)), .int (oI x), .int (oI y), .int (oI w), .int (oI h)] D (fun D' => ∃ t, D' = lU D 21 0 t ∧ Out5 (D.2.1 21 0) t ∧ AR t 5 (fun i j => S i j || boxC x y w h i j)) := by
  refine Con_of (by decide) (Nat.le_of_ble_eq_true rfl) ?_
  intro X hX hR hl; subst hl
  have outer : ∀ (m : Nat) (v : Int) (D1 : Dt) (t : Nat → Int64), (y ≤ v ∧ v ≤ y + h) → D1 = lU D 21 0 t → Out5 (D.2.1 21 0) t → AR t 5 (fun i j => S i j || decide ((y + 60 ≤ (j : Int) ∧ (j : Int) < v + 60) ∧ x + 60 ≤ (i : Int) ∧ (i : Int) < x + w + 60)) → (y + h - v).toNat < m → Vw E X 7 D1 3 [(0, some (.ref (E.1 (20, 0)))), (1, some (.int (oI x))), (2, some (.int (oI y))), (3, some (.int (oI w))), (4, some (.int (oI h))), (5, some (.int (oI v)))] [] := by
    intro m
    induction m with
    | zero => intro v D1 t g1 e1 e2 e3 g4; omega
    | succ m ihO =>
      intro v D1 t g1 e1 e2 e3 g4
      have inner : v < y + h → ∀ (m : Nat) (u : Int) (D1 : Dt) (t : Nat → Int64), (x ≤ u ∧ u ≤ x + w) → D1 = lU D 21 0 t → Out5 (D.2.1 21 0) t → AR t 5 (fun i j => S i j || decide (((y + 60 ≤ (j : Int) ∧ (j : Int) < v + 60) ∧ x + 60 ≤ (i : Int) ∧ (i : Int) < x + w + 60) ∨ ((j : Int) = v + 60 ∧ x + 60 ≤ (i : Int) ∧ (i : Int) < u + 60))) → (x + w - u).toNat < m → Vw E X 7 D1 15 [(0, some (.ref (E.1 (20, 0)))), (1, some (.int (oI x))), (2, some (.int (oI y))), (3, some (.int (oI w))), (4, some (.int (oI h))), (5, some (.int (oI v))), (6, some (.int (oI u)))] [] := by
        intro hv m
        induction m with
        | zero => intro u D1 t g1 e1 e2 e3 g4; omega
        | succ m ih =>
          intro u D1 t g1 e1 e2 e3 g4
          refine V_iload (pc := 15) hX rfl dX6_fills_15 ?_
          refine V_iload_n (pc := 17) (j := 1) hX 1 rfl rfl dX6_fills_17 ?_
          refine V_iload_n (pc := 18) (j := 3) hX 3 rfl rfl dX6_fills_18 ?_
          refine Z_iadd (pc := 19) hX dX6_fills_19 ?_
          refine Z_icmp_ge (pc := 20) (tgt := 38) hX (by omega) (by omega) dX6_fills_20 (by decide) (fun h20 => ?_) (fun h20 => ?_)
          · refine Z_iinc (pc := 38) hX 1 rfl rfl dX6_fills_38 ?_
            refine V_goto (pc := 41) (off := (-38)) (tgt := 3) hX (by decide) dX6_fills_41 ?_
            refine V_cut [(0, some (.ref (E.1 (20, 0)))), (1, some (.int (oI x))), (2, some (.int (oI y))), (3, some (.int (oI w))), (4, some (.int (oI h))), (5, some (.int (oI (v + 1))))] ⟨rfl, rfl, rfl, rfl, rfl, rfl, trivial⟩ ?_
            exact ihO (v + 1) D1 t (by omega) e1 e2 (e3.congr (fun i hi j hj => orE (by omega))) (by omega)
          · refine V_aload_n (pc := 23) (j := 0) hX 0 rfl rfl dX6_fills_23 ?_
            refine V_iconst (pc := 24) (z := 5) hX (oI 5) rfl dX6_fills_24 ?_
            refine V_iload (pc := 25) hX rfl dX6_fills_25 ?_
            refine V_iload (pc := 27) hX rfl dX6_fills_27 ?_
            refine cVV3 (pc := 29) hX (c_X6_lays (a := 5) (by omega) (by omega) (by omega)) (by decide) st_X6_117 ix_20 rfl rfl rfl (Nat.le_of_ble_eq_true rfl) dX6_fills_29 ?_
            refine Z_iinc (pc := 32) hX 1 rfl rfl dX6_fills_32 ?_
            refine V_goto (pc := 35) (off := (-20)) (tgt := 15) hX (by decide) dX6_fills_35 ?_
            refine V_cut [(0, some (.ref (E.1 (20, 0)))), (1, some (.int (oI x))), (2, some (.int (oI y))), (3, some (.int (oI w))), (4, some (.int (oI h))), (5, some (.int (oI v))), (6, some (.int (oI (u + 1))))] ⟨rfl, rfl, rfl, rfl, rfl, rfl, rfl, trivial⟩ ?_
            refine ih (u + 1) _ _ (by omega) (by rw [e1, lU_get, lU_lU]) (e2.tr (Out5_set (by omega) (by omega))) ((AR_set (by omega) (by omega) e3).congr (fun i hi j hj => orS (by omega))) (by omega)
      refine V_iload (pc := 3) hX rfl dX6_fills_3 ?_
      refine V_iload_n (pc := 5) (j := 2) hX 2 rfl rfl dX6_fills_5 ?_
      refine V_iload (pc := 6) hX rfl dX6_fills_6 ?_
      refine Z_iadd (pc := 8) hX dX6_fills_8 ?_
      refine Z_icmp_ge (pc := 9) (tgt := 44) hX (by omega) (by omega) dX6_fills_9 (by decide) (fun h9 => ?_) (fun h9 => ?_)
      · refine V_vret (pc := 44) hX hR dX6_fills_44 ?_
        exact ⟨rfl, t, e1, e2, e3.congr (fun i hi j hj => orE (by omega))⟩
      · refine V_iload_n (pc := 12) (j := 1) hX 1 rfl rfl dX6_fills_12 ?_
        refine V_istore (pc := 13) hX (by decide) rfl dX6_fills_13 ?_
        refine V_cut [(0, some (.ref (E.1 (20, 0)))), (1, some (.int (oI x))), (2, some (.int (oI y))), (3, some (.int (oI w))), (4, some (.int (oI h))), (5, some (.int (oI v))), (6, some (.int (oI x)))] ⟨rfl, rfl, rfl, rfl, rfl, rfl, rfl, trivial⟩ ?_
        exact inner (by omega) _ x D1 t (by omega) e1 e2 (e3.congr (fun i hi j hj => orE (by omega))) (Nat.lt_succ_self _)
  refine V_iload_n (pc := 0) (j := 2) hX 2 rfl rfl dX6_fills_0 ?_
  refine V_istore (pc := 1) hX (by decide) rfl dX6_fills_1 ?_
  refine V_cut [(0, some (.ref (E.1 (20, 0)))), (1, some (.int (oI x))), (2, some (.int (oI y))), (3, some (.int (oI w))), (4, some (.int (oI h))), (5, some (.int (oI y)))] ⟨rfl, rfl, rfl, rfl, rfl, rfl, trivial⟩ ?_
  exact outer _ y D (D.2.1 21 0) (by omega) (lU_self D 21 0).symm (Out5.rf _) (hS.congr (fun i hi j hj => by rw [decide_eq_false (by omega), Bool.or_false])) (Nat.lt_succ_self _)
