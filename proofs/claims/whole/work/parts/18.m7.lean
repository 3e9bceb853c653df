def opL (so : Int) (u v : Int64) : Int64 := if so = 0 then u ||| v else if so = 1 then u &&& v else if so = 2 then u &&& (v ^^^ -1) else u ^^^ v
def mixC (so : Int) (A B : Cl) : Cl := fun i j => if so = 0 then A i j || B i j else if so = 1 then A i j && B i j else if so = 2 then A i j && !B i j else A i j ^^ B i j
theorem tb_not (v : Int64) {i : Nat} (h : i < 64) : tb (v ^^^ -1) i = !tb v i := by rw [tb_xor, tb_m1 h]; cases tb v i <;> rfl
theorem opL_tb (so : Int) (u v : Int64) {i : Nat} (h : i < 64) : tb (opL so u v) i = if so = 0 then tb u i || tb v i else if so = 1 then tb u i && tb v i else if so = 2 then tb u i && !tb v i else tb u i ^^ tb v i := by
  unfold opL
  split
  · exact tb_or u v i
  · split
    · exact tb_and u v i
    · split
      · rw [tb_and, tb_not v h]
      · exact tb_xor u v i
theorem opL_60 (so : Int) {u v : Int64} (hu : b60 u) (hv : b60 v) : b60 (opL so u v) := by
  intro i hi
  by_cases h : i < 64
  · rw [opL_tb so u v h, hu i hi, hv i hi]
    repeat' split
    all_goals rfl
  · exact tb_big (by omega)
theorem AR_mix {s t : Nat → Int64} {a b c : Nat} {A B : Cl} (so : Int) (hA : AR s a A) (hB : AR s b B) (h : ∀ k, k < 240 → t (240 * c + k) = opL so (s (240 * a + k)) (s (240 * b + k))) : AR t c (mixC so A B) := by
  refine ⟨fun k hk => by rw [h k hk]; exact opL_60 so (hA.1 k hk) (hB.1 k hk), fun i hi j hj => ?_⟩
  rw [cM, Nat.add_assoc, h _ (by omega), opL_tb so _ _ (by omega), mixC, ← hA.2 i hi j hj, ← hB.2 i hi j hj, cM, cM, Nat.add_assoc, Nat.add_assoc]
theorem c_X6_mixes {E : Le} {l : Launch} {D : Dt} {A B : Cl} {so : Int} {a b c : Nat} (hso : 0 ≤ so ∧ so ≤ 3) (ha : a < 5) (hb : b < 5) (hc : c < 5) (hA : AR (D.2.1 21 0) a A) (hB : AR (D.2.1 21 0) b B) : ConIp E l yX6_mixes cX6_mixes 10 (some .int) 7 [.ref (E.1 (20, 0)), .int (oI so), .int (oI (a : Int)), .int (oI (b : Int)), .int (oI (c : Int))] D (MkP D (mixC so A B) c) := by
  refine Con_of (by decide) (Nat.le_of_ble_eq_true rfl) ?_
  intro X hX hR hl; subst hl
  have loop : ∀ (m : Nat) (k : Nat) (D1 : Dt), k ≤ 240 → D1 = lU D 21 0 (blk (D.2.1 21 0) 5 (fun k => opL so (D.2.1 21 0 (240 * a + k)) (D.2.1 21 0 (240 * b + k))) k) → 240 - k < m → Vw E X 10 D1 3 [(0, some (.ref (E.1 (20, 0)))), (1, some (.int (oI so))), (2, some (.int (oI (a : Int)))), (3, some (.int (oI (b : Int)))), (4, some (.int (oI (c : Int)))), (5, some (.int (oI (k : Int))))] [] := by
    intro m
    induction m with
    | zero => intro k D1 g1 g2 g3; omega
    | succ m ih =>
      intro k D1 g1 g2 g3
      refine V_iload (pc := 3) hX rfl dX6_mixes_3 ?_
      refine V_sipush (pc := 5) (z := 240) hX (oI 240) (by decide) dX6_mixes_5 ?_
      refine Z_icmp_ge (pc := 8) (tgt := 105) hX (by omega) (by omega) dX6_mixes_8 (by decide) (fun h8 => ?_) (fun h8 => ?_)
      · have e : k = 240 := by omega
        subst e
        have hT : AR (D1.2.1 21 0) 5 (mixC so A B) := by rw [g2, lU_get]; exact AR_mix so hA hB (fun k hk => blk_in hk)
        refine V_aload_n (pc := 105) (j := 0) hX 0 rfl rfl dX6_mixes_105 ?_
        refine V_iload (pc := 106) hX rfl dX6_mixes_106 ?_
        refine cVIp1 (pc := 108) hX (c_X6_becomes (T := mixC so A B) hc hT) (by decide) st_X6_114 ix_20 rfl rfl rfl (Nat.le_of_ble_eq_true rfl) dX6_mixes_108 (fun r108 D108 h108 => ?_)
        refine V_iret (pc := 111) hX hR dX6_mixes_111 ?_
        exact ⟨_, rfl, h108.from (by rw [g2]; exact Fr_lU D _) (by rw [g2, lU_get]; exact Out5_blk.o8)⟩
      · refine V_aload_n (pc := 11) (j := 0) hX 0 rfl rfl dX6_mixes_11 ?_
        refine gf_X6_7 (pc := 12) hX dX6_mixes_12 ?_
        refine V_sipush (pc := 15) (z := 240) hX (oI 240) (by decide) dX6_mixes_15 ?_
        refine V_iload_n (pc := 18) (j := 2) hX 2 rfl rfl dX6_mixes_18 ?_
        refine Z_imul (pc := 19) hX dX6_mixes_19 ?_
        refine V_iload (pc := 20) hX rfl dX6_mixes_20 ?_
        refine Z_iadd (pc := 22) hX dX6_mixes_22 ?_
        refine zl_21 (pc := 23) hX (240 * a + k) (by omega) (by omega) dX6_mixes_23 ?_
        refine V_lstore (pc := 24) hX (by decide) rfl dX6_mixes_24 ?_
        refine V_aload_n (pc := 26) (j := 0) hX 0 rfl rfl dX6_mixes_26 ?_
        refine gf_X6_7 (pc := 27) hX dX6_mixes_27 ?_
        refine V_sipush (pc := 30) (z := 240) hX (oI 240) (by decide) dX6_mixes_30 ?_
        refine V_iload_n (pc := 33) (j := 3) hX 3 rfl rfl dX6_mixes_33 ?_
        refine Z_imul (pc := 34) hX dX6_mixes_34 ?_
        refine V_iload (pc := 35) hX rfl dX6_mixes_35 ?_
        refine Z_iadd (pc := 37) hX dX6_mixes_37 ?_
        refine zl_21 (pc := 38) hX (240 * b + k) (by omega) (by omega) dX6_mixes_38 ?_
        refine V_lstore (pc := 39) hX (by decide) rfl dX6_mixes_39 ?_
        refine V_aload_n (pc := 41) (j := 0) hX 0 rfl rfl dX6_mixes_41 ?_
        refine gf_X6_7 (pc := 42) hX dX6_mixes_42 ?_
        refine V_sipush (pc := 45) (z := 1200) hX (oI 1200) (by decide) dX6_mixes_45 ?_
        refine V_iload (pc := 48) hX rfl dX6_mixes_48 ?_
        refine Z_iadd (pc := 50) hX dX6_mixes_50 ?_
        refine V_iload_n (pc := 51) (j := 1) hX 1 rfl rfl dX6_mixes_51 ?_
        refine Z_if_ne (pc := 52) (tgt := 63) hX (by omega) dX6_mixes_52 (by decide) (fun h52 => ?_) (fun h52 => ?_)
        · refine V_iload_n (pc := 63) (j := 1) hX 1 rfl rfl dX6_mixes_63 ?_
          refine V_iconst (pc := 64) (z := 1) hX (oI 1) rfl dX6_mixes_64 ?_
          refine Z_icmp_ne (pc := 65) (tgt := 76) hX (by omega) (by omega) dX6_mixes_65 (by decide) (fun h65 => ?_) (fun h65 => ?_)
          · refine V_iload_n (pc := 76) (j := 1) hX 1 rfl rfl dX6_mixes_76 ?_
            refine V_iconst (pc := 77) (z := 2) hX (oI 2) rfl dX6_mixes_77 ?_
            refine Z_icmp_ne (pc := 78) (tgt := 93) hX (by omega) (by omega) dX6_mixes_78 (by decide) (fun h78 => ?_) (fun h78 => ?_)
            · refine V_lload (pc := 93) hX rfl dX6_mixes_93 ?_
              refine V_lload (pc := 95) hX rfl dX6_mixes_95 ?_
              refine V_lxor (pc := 97) hX dX6_mixes_97 ?_
              refine zs_21 (pc := 98) hX (240 * 5 + k) (by omega) (by omega) dX6_mixes_98 ?_
              refine Z_iinc (pc := 99) hX 1 rfl rfl dX6_mixes_99 ?_
              refine V_goto (pc := 102) (off := (-99)) (tgt := 3) hX (by decide) dX6_mixes_102 ?_
              refine V_cut [(0, some (.ref (E.1 (20, 0)))), (1, some (.int (oI so))), (2, some (.int (oI (a : Int)))), (3, some (.int (oI (b : Int)))), (4, some (.int (oI (c : Int)))), (5, some (.int (oI ((k + 1 : Nat) : Int))))] ⟨rfl, rfl, rfl, rfl, rfl, rfl, trivial⟩ ?_
              refine ih (k + 1) _ (by omega) ?_ (by omega)
              rw [g2, lU_get, lU_lU, ← blk_s, opL, if_neg (by omega), if_neg (by omega), if_neg (by omega), blk_out (by omega), blk_out (by omega)]
            · refine V_lload (pc := 81) hX rfl dX6_mixes_81 ?_
              refine V_lload (pc := 83) hX rfl dX6_mixes_83 ?_
              refine V_ldc2 (pc := 85) hX (-1) w_867 dX6_mixes_85 ?_
              refine V_lxor (pc := 88) hX dX6_mixes_88 ?_
              refine V_land (pc := 89) hX dX6_mixes_89 ?_
              refine V_goto (pc := 90) (off := 8) (tgt := 98) hX (by decide) dX6_mixes_90 ?_
              refine zs_21 (pc := 98) hX (240 * 5 + k) (by omega) (by omega) dX6_mixes_98 ?_
              refine Z_iinc (pc := 99) hX 1 rfl rfl dX6_mixes_99 ?_
              refine V_goto (pc := 102) (off := (-99)) (tgt := 3) hX (by decide) dX6_mixes_102 ?_
              refine V_cut [(0, some (.ref (E.1 (20, 0)))), (1, some (.int (oI so))), (2, some (.int (oI (a : Int)))), (3, some (.int (oI (b : Int)))), (4, some (.int (oI (c : Int)))), (5, some (.int (oI ((k + 1 : Nat) : Int))))] ⟨rfl, rfl, rfl, rfl, rfl, rfl, trivial⟩ ?_
              refine ih (k + 1) _ (by omega) ?_ (by omega)
              rw [g2, lU_get, lU_lU, ← blk_s, opL, if_neg (by omega), if_neg (by omega), if_pos (by omega), blk_out (by omega), blk_out (by omega)]
          · refine V_lload (pc := 68) hX rfl dX6_mixes_68 ?_
            refine V_lload (pc := 70) hX rfl dX6_mixes_70 ?_
            refine V_land (pc := 72) hX dX6_mixes_72 ?_
            refine V_goto (pc := 73) (off := 25) (tgt := 98) hX (by decide) dX6_mixes_73 ?_
            refine zs_21 (pc := 98) hX (240 * 5 + k) (by omega) (by omega) dX6_mixes_98 ?_
            refine Z_iinc (pc := 99) hX 1 rfl rfl dX6_mixes_99 ?_
            refine V_goto (pc := 102) (off := (-99)) (tgt := 3) hX (by decide) dX6_mixes_102 ?_
            refine V_cut [(0, some (.ref (E.1 (20, 0)))), (1, some (.int (oI so))), (2, some (.int (oI (a : Int)))), (3, some (.int (oI (b : Int)))), (4, some (.int (oI (c : Int)))), (5, some (.int (oI ((k + 1 : Nat) : Int))))] ⟨rfl, rfl, rfl, rfl, rfl, rfl, trivial⟩ ?_
            refine ih (k + 1) _ (by omega) ?_ (by omega)
            rw [g2, lU_get, lU_lU, ← blk_s, opL, if_neg (by omega), if_pos (by omega), blk_out (by omega), blk_out (by omega)]
        · refine V_lload (pc := 55) hX rfl dX6_mixes_55 ?_
          refine V_lload (pc := 57) hX rfl dX6_mixes_57 ?_
          refine V_lor (pc := 59) hX dX6_mixes_59 ?_
          refine V_goto (pc := 60) (off := 38) (tgt := 98) hX (by decide) dX6_mixes_60 ?_
          refine zs_21 (pc := 98) hX (240 * 5 + k) (by omega) (by omega) dX6_mixes_98 ?_
          refine Z_iinc (pc := 99) hX 1 rfl rfl dX6_mixes_99 ?_
          refine V_goto (pc := 102) (off := (-99)) (tgt := 3) hX (by decide) dX6_mixes_102 ?_
          refine V_cut [(0, some (.ref (E.1 (20, 0)))), (1, some (.int (oI so))), (2, some (.int (oI (a : Int)))), (3, some (.int (oI (b : Int)))), (4, some (.int (oI (c : Int)))), (5, some (.int (oI ((k + 1 : Nat) : Int))))] ⟨rfl, rfl, rfl, rfl, rfl, rfl, trivial⟩ ?_
          refine ih (k + 1) _ (by omega) ?_ (by omega)
          rw [g2, lU_get, lU_lU, ← blk_s, opL, if_pos (by omega), blk_out (by omega), blk_out (by omega)]
  refine V_iconst (pc := 0) (z := 0) hX (oI 0) rfl dX6_mixes_0 ?_
  refine V_istore (pc := 1) hX (by decide) rfl dX6_mixes_1 ?_
  refine V_cut [(0, some (.ref (E.1 (20, 0)))), (1, some (.int (oI so))), (2, some (.int (oI (a : Int)))), (3, some (.int (oI (b : Int)))), (4, some (.int (oI (c : Int)))), (5, some (.int (oI ((0 : Nat) : Int))))] ⟨rfl, rfl, rfl, rfl, rfl, rfl, trivial⟩ ?_
  exact loop 241 0 D (by omega) (by rw [blk_0, lU_self]) (by omega)
/-- source cells before u, v (row by row) have been laid; src tells where a target comes from -/
def imC (A : Cl) (ok : Nat → Nat → Bool) (si sj : Nat → Nat → Nat) (u v : Nat) : Cl := fun i j => ok i j && (decide (sj i j < v ∨ (sj i j = v ∧ si i j < u)) && A (si i j) (sj i j))
theorem imC_t {A : Cl} {ok : Nat → Nat → Bool} {si sj : Nat → Nat → Nat} {u v i0 j0 : Nat} (hA : A u v = true) (h0 : ok i0 j0 = true ∧ si i0 j0 = u ∧ sj i0 j0 = v) (hi : ∀ i j, i < 120 → j < 120 → ok i j = true → si i j = u → sj i j = v → i = i0 ∧ j = j0) {i j : Nat} (li : i < 120) (lj : j < 120) : (imC A ok si sj u v i j || decide (i = i0 ∧ j = j0)) = imC A ok si sj (u + 1) v i j := by
  unfold imC
  by_cases q : i = i0 ∧ j = j0
  · obtain ⟨rfl, rfl⟩ := q
    rw [decide_eq_true (⟨rfl, rfl⟩ : i = i ∧ j = j), Bool.or_true, h0.1, h0.2.1, h0.2.2, hA, decide_eq_true (by omega)]
    rfl
  · rw [decide_eq_false q, Bool.or_false]
    cases ho : ok i j with
    | false => rfl
    | true =>
      rw [Bool.true_and, Bool.true_and]
      have hn : ¬ (si i j = u ∧ sj i j = v) := fun z => q (hi i j li lj ho z.1 z.2)
      rw [decide_eq_decide.mpr (show (sj i j < v ∨ (sj i j = v ∧ si i j < u)) ↔ (sj i j < v ∨ (sj i j = v ∧ si i j < u + 1)) by omega)]
theorem imC_f {A : Cl} {ok : Nat → Nat → Bool} {si sj : Nat → Nat → Nat} {u v : Nat} (hA : A u v = false) (i j : Nat) : imC A ok si sj u v i j = imC A ok si sj (u + 1) v i j := by
  unfold imC
  by_cases q : si i j = u ∧ sj i j = v
  · simp only [q.1, q.2, hA, Bool.and_false]
  · rw [decide_eq_decide.mpr (show (sj i j < v ∨ (sj i j = v ∧ si i j < u)) ↔ (sj i j < v ∨ (sj i j = v ∧ si i j < u + 1)) by omega)]
theorem imC_n {A : Cl} {ok : Nat → Nat → Bool} {si sj : Nat → Nat → Nat} {v i j : Nat} (h : ok i j = true → si i j < 120) : imC A ok si sj 120 v i j = imC A ok si sj 0 (v + 1) i j := by
  unfold imC
  cases ho : ok i j with
  | false => rfl
  | true =>
    have := h ho
    rw [decide_eq_decide.mpr (show (sj i j < v ∨ (sj i j = v ∧ si i j < 120)) ↔ (sj i j < v + 1 ∨ (sj i j = v + 1 ∧ si i j < 0)) by omega)]
theorem imC_e {A : Cl} {ok : Nat → Nat → Bool} {si sj : Nat → Nat → Nat} {i j : Nat} (h : ok i j = true → sj i j < 120) : imC A ok si sj 0 120 i j = (ok i j && A (si i j) (sj i j)) := by
  unfold imC
  cases ho : ok i j with
  | false => rfl
  | true =>
    have := h ho
    rw [decide_eq_true (by omega), Bool.true_and]
theorem imC_0 (A : Cl) (ok : Nat → Nat → Bool) (si sj : Nat → Nat → Nat) (i j : Nat) : imC A ok si sj 0 0 i j = false := by
  unfold imC
  rw [decide_eq_false (by omega), Bool.false_and, Bool.and_false]
/-- the target comes from -x, -y -/
def mvI (x : Int) (i : Nat) : Nat := ((i : Int) - x).toNat
def mvB (x y : Int) (i j : Nat) : Bool := decide ((0 ≤ (i : Int) - x ∧ (i : Int) - x < 120) ∧ 0 ≤ (j : Int) - y ∧ (j : Int) - y < 120)
def moveC (x y : Int) (A : Cl) : Cl := fun i j => mvB x y i j && A (mvI x i) (mvI y j)
def mvOK (x y : Int) (A : Cl) : Prop := ∀ i, i < 120 → ∀ j, j < 120 → A i j = true → cellB ((i : Int) - 60 + x) ((j : Int) - 60 + y) = true
def flI (way : Int) (i j : Nat) : Nat := if way = 0 then 119 - i else if way = 1 then i else j
def flJ (way : Int) (i j : Nat) : Nat := if way = 0 then j else if way = 1 then 119 - j else i
def flipC (way : Int) (A : Cl) : Cl := fun i j => A (flI way i j) (flJ way i j)
theorem c_X6_moves {E : Le} {l : Launch} {D : Dt} {A : Cl} {a b : Nat} {x y : Int} (ha : a < 5) (hb : b < 5) (hx : -120 ≤ x ∧ x ≤ 120) (hy : -120 ≤ y ∧ y ≤ 120) (hA : AR (D.2.1 21 0) a A) : ConIp E l yX6_moves cX6_moves 7 (some .int) 7 [.ref (E.1 (20, 0)), .int (oI (a : Int)), .int (oI x), .int (oI y), .int (oI (b : Int))] D (fun r D' => (mvOK x y A → MkP D (moveC x y A) b r D') ∧ (¬ mvOK x y A → r = oI (-203) ∧ ∃ t, D' = lU D 21 0 t ∧ Out5 (D.2.1 21 0) t)) := by
  refine Con_of (by decide) (Nat.le_of_ble_eq_true rfl) ?_
  intro X hX hR hl; subst hl
  have outer : ∀ (m v : Nat) (D1 : Dt) (t : Nat → Int64), v ≤ 120 → D1 = lU D 21 0 t → Out5 (D.2.1 21 0) t → AR t 5 (imC A (mvB x y) (fun i _ => mvI x i) (fun _ j => mvI y j) 0 v) → (∀ i, i < 120 → ∀ j, j < 120 → (j < v ∨ (j = v ∧ i < 0)) → A i j = true → cellB ((i : Int) - 60 + x) ((j : Int) - 60 + y) = true) → 120 - v < m → Vw E X 7 D1 9 [(0, some (.ref (E.1 (20, 0)))), (1, some (.int (oI (a : Int)))), (2, some (.int (oI x))), (3, some (.int (oI y))), (4, some (.int (oI (b : Int)))), (5, some (.int (oI ((v : Int) - 60))))] [] := by
    intro m
    induction m with
    | zero => intro v D1 t g1 e1 e2 e3 e4 g4; omega
    | succ m ihO =>
      intro v D1 t g1 e1 e2 e3 e4 g4
      have inner : v < 120 → ∀ (m u : Nat) (D1 : Dt) (t : Nat → Int64), u ≤ 120 → D1 = lU D 21 0 t → Out5 (D.2.1 21 0) t → AR t 5 (imC A (mvB x y) (fun i _ => mvI x i) (fun _ j => mvI y j) u v) → (∀ i, i < 120 → ∀ j, j < 120 → (j < v ∨ (j = v ∧ i < u)) → A i j = true → cellB ((i : Int) - 60 + x) ((j : Int) - 60 + y) = true) → 120 - u < m → Vw E X 7 D1 20 [(0, some (.ref (E.1 (20, 0)))), (1, some (.int (oI (a : Int)))), (2, some (.int (oI x))), (3, some (.int (oI y))), (4, some (.int (oI (b : Int)))), (5, some (.int (oI ((v : Int) - 60)))), (6, some (.int (oI ((u : Int) - 60))))] [] := by
        intro hv m
        induction m with
        | zero => intro u D1 t g1 e1 e2 e3 e4 g4; omega
        | succ m ih =>
          intro u D1 t g1 e1 e2 e3 e4 g4
          have hAv : ∀ u v : Nat, u < 120 → v < 120 → hasM (D1.2.1 21 0) a ((u : Int) - 60) ((v : Int) - 60) = A u v := fun u v hu hv => by
            rw [e1, lU_get, AR_has (hA.same (fun k hk => e2 _ (by omega))), rpC, cellB_t.mpr (by omega), Bool.true_and, show ((u : Int) - 60 + 60).toNat = u by omega, show ((v : Int) - 60 + 60).toNat = v by omega]
          refine V_iload (pc := 20) hX rfl dX6_moves_20 ?_
          refine V_bipush (pc := 22) (z := 59) hX (oI 59) (by decide) dX6_moves_22 ?_
          refine Z_icmp_gt (pc := 24) (tgt := 76) hX (by omega) (by omega) dX6_moves_24 (by decide) (fun h24 => ?_) (fun h24 => ?_)
          · refine Z_iinc (pc := 76) hX 1 rfl rfl dX6_moves_76 ?_
            refine V_goto (pc := 79) (off := (-70)) (tgt := 9) hX (by decide) dX6_moves_79 ?_
            refine V_cut [(0, some (.ref (E.1 (20, 0)))), (1, some (.int (oI (a : Int)))), (2, some (.int (oI x))), (3, some (.int (oI y))), (4, some (.int (oI (b : Int)))), (5, some (.int (oI (((v + 1 : Nat) : Int) - 60))))] ⟨rfl, rfl, rfl, rfl, rfl, congrArg (fun q => some (Value.int (oI q))) (by omega), trivial⟩ ?_
            have e : u = 120 := by omega
            subst e
            exact ihO (v + 1) D1 t (by omega) e1 e2 (e3.congr (fun i hi j hj => imC_n (fun q => by simp only [mvB, decide_eq_true_iff] at q; simp only [mvI]; omega))) (fun i hi j hj hq => e4 i hi j hj (by omega)) (by omega)
          · refine V_aload_n (pc := 27) (j := 0) hX 0 rfl rfl dX6_moves_27 ?_
            refine V_iload_n (pc := 28) (j := 1) hX 1 rfl rfl dX6_moves_28 ?_
            refine V_iload (pc := 29) hX rfl dX6_moves_29 ?_
            refine V_iload (pc := 31) hX rfl dX6_moves_31 ?_
            refine cVI3 (pc := 33) hX (c_X6_has (by omega) (by omega) (by omega)) (by decide) st_X6_65 ix_20 rfl rfl rfl (Nat.le_of_ble_eq_true rfl) dX6_moves_33 ?_
            refine B_if_eq (pc := 36) (tgt := 70) hX dX6_moves_36 (by decide) (fun h36 => ?_) (fun h36 => ?_)
            · refine Z_iinc (pc := 70) hX 1 rfl rfl dX6_moves_70 ?_
              refine V_goto (pc := 73) (off := (-53)) (tgt := 20) hX (by decide) dX6_moves_73 ?_
              refine V_cut [(0, some (.ref (E.1 (20, 0)))), (1, some (.int (oI (a : Int)))), (2, some (.int (oI x))), (3, some (.int (oI y))), (4, some (.int (oI (b : Int)))), (5, some (.int (oI ((v : Int) - 60)))), (6, some (.int (oI (((u + 1 : Nat) : Int) - 60))))] ⟨rfl, rfl, rfl, rfl, rfl, rfl, congrArg (fun q => some (Value.int (oI q))) (by omega), trivial⟩ ?_
              have hu : A u v = false := by rw [← hAv u v (by omega) (by omega)]; exact h36
              exact ih (u + 1) D1 t (by omega) e1 e2 (e3.congr (fun i hi j hj => imC_f hu i j)) (fun i hi j hj hq hA2 => by
                by_cases q : j = v ∧ i = u
                · rw [q.1, q.2, hu] at hA2; cases hA2
                · exact e4 i hi j hj (by omega) hA2) (by omega)
            · refine V_iload (pc := 39) hX rfl dX6_moves_39 ?_
              refine V_iload_n (pc := 41) (j := 2) hX 2 rfl rfl dX6_moves_41 ?_
              refine Z_iadd (pc := 42) hX dX6_moves_42 ?_
              refine V_iload (pc := 43) hX rfl dX6_moves_43 ?_
              refine V_iload_n (pc := 45) (j := 3) hX 3 rfl rfl dX6_moves_45 ?_
              refine Z_iadd (pc := 46) hX dX6_moves_46 ?_
              refine cSI2 (pc := 47) hX (c_X6_isCell (by omega) (by omega)) (by decide) st_X6_37 (Nat.le_of_ble_eq_true rfl) dX6_moves_47 ?_
              refine B_if_ne (pc := 50) (tgt := 57) hX dX6_moves_50 (by decide) (fun h50 => ?_) (fun h50 => ?_)
              · refine V_aload_n (pc := 57) (j := 0) hX 0 rfl rfl dX6_moves_57 ?_
                refine V_iconst (pc := 58) (z := 5) hX (oI 5) rfl dX6_moves_58 ?_
                refine V_iload (pc := 59) hX rfl dX6_moves_59 ?_
                refine V_iload_n (pc := 61) (j := 2) hX 2 rfl rfl dX6_moves_61 ?_
                refine Z_iadd (pc := 62) hX dX6_moves_62 ?_
                refine V_iload (pc := 63) hX rfl dX6_moves_63 ?_
                refine V_iload_n (pc := 65) (j := 3) hX 3 rfl rfl dX6_moves_65 ?_
                refine Z_iadd (pc := 66) hX dX6_moves_66 ?_
                refine cVV3 (pc := 67) hX (c_X6_lays (a := 5) (by omega) (cellB_t.mp h50).1 (cellB_t.mp h50).2) (by decide) st_X6_117 ix_20 rfl rfl rfl (Nat.le_of_ble_eq_true rfl) dX6_moves_67 ?_
                refine Z_iinc (pc := 70) hX 1 rfl rfl dX6_moves_70 ?_
                refine V_goto (pc := 73) (off := (-53)) (tgt := 20) hX (by decide) dX6_moves_73 ?_
                refine V_cut [(0, some (.ref (E.1 (20, 0)))), (1, some (.int (oI (a : Int)))), (2, some (.int (oI x))), (3, some (.int (oI y))), (4, some (.int (oI (b : Int)))), (5, some (.int (oI ((v : Int) - 60)))), (6, some (.int (oI (((u + 1 : Nat) : Int) - 60))))] ⟨rfl, rfl, rfl, rfl, rfl, rfl, congrArg (fun q => some (Value.int (oI q))) (by omega), trivial⟩ ?_
                have hu : A u v = true := by rw [← hAv u v (by omega) (by omega)]; exact h36
                obtain ⟨⟨c1, c2⟩, c3, c4⟩ := cellB_t.mp h50
                refine ih (u + 1) _ _ (by omega) (by rw [e1, lU_get, lU_lU]) (e2.tr (Out5_set (by omega) (by omega))) ((AR_set (by omega) (by omega) e3).congr (fun i hi j hj => imC_t hu ⟨decide_eq_true (by omega), by simp only [mvI]; omega, by simp only [mvI]; omega⟩ (fun i j hi hj ho q1 q2 => by simp only [mvI, mvB, decide_eq_true_iff] at ho q1 q2; omega) hi hj)) (fun i hi j hj hq hA2 => by
                  by_cases q : j = v ∧ i = u
                  · rw [q.1, q.2]; exact h50
                  · exact e4 i hi j hj (by omega) hA2) (by omega)
              · refine V_sipush (pc := 53) (z := (-203)) hX (oI (-203)) (by decide) dX6_moves_53 ?_
                refine V_iret (pc := 56) hX hR dX6_moves_56 ?_
                exact ⟨_, rfl, fun q => absurd (q u (by omega) v (by omega) (by rw [← hAv u v (by omega) (by omega)]; exact h36)) (by rw [h50]; decide), fun _ => ⟨rfl, t, e1, e2⟩⟩
      refine V_iload (pc := 9) hX rfl dX6_moves_9 ?_
      refine V_bipush (pc := 11) (z := 59) hX (oI 59) (by decide) dX6_moves_11 ?_
      refine Z_icmp_gt (pc := 13) (tgt := 82) hX (by omega) (by omega) dX6_moves_13 (by decide) (fun h13 => ?_) (fun h13 => ?_)
      · have e : v = 120 := by omega
        subst e
        have hT : AR (D1.2.1 21 0) 5 (moveC x y A) := by
          rw [e1, lU_get]
          exact e3.congr (fun i hi j hj => imC_e (fun q => by simp only [mvB, decide_eq_true_iff] at q; simp only [mvI]; omega))
        refine V_aload_n (pc := 82) (j := 0) hX 0 rfl rfl dX6_moves_82 ?_
        refine V_iload (pc := 83) hX rfl dX6_moves_83 ?_
        refine cVIp1 (pc := 85) hX (c_X6_becomes hb hT) (by decide) st_X6_114 ix_20 rfl rfl rfl (Nat.le_of_ble_eq_true rfl) dX6_moves_85 (fun r85 D85 h85 => ?_)
        refine V_iret (pc := 88) hX hR dX6_moves_88 ?_
        exact ⟨_, rfl, fun _ => h85.from (by rw [e1]; exact Fr_lU D t) (by rw [e1, lU_get]; exact e2.o8), fun q => absurd (fun i hi j hj => e4 i hi j hj (by omega)) q⟩
      · refine V_bipush (pc := 16) (z := (-60)) hX (oI (-60)) (by decide) dX6_moves_16 ?_
        refine V_istore (pc := 18) hX (by decide) rfl dX6_moves_18 ?_
        refine V_cut [(0, some (.ref (E.1 (20, 0)))), (1, some (.int (oI (a : Int)))), (2, some (.int (oI x))), (3, some (.int (oI y))), (4, some (.int (oI (b : Int)))), (5, some (.int (oI ((v : Int) - 60)))), (6, some (.int (oI (((0 : Nat) : Int) - 60))))] ⟨rfl, rfl, rfl, rfl, rfl, rfl, rfl, trivial⟩ ?_
        exact inner (by omega) 121 0 D1 t (by omega) e1 e2 e3 (fun i hi j hj hq => e4 i hi j hj hq) (by omega)
  refine V_aload_n (pc := 0) (j := 0) hX 0 rfl rfl dX6_moves_0 ?_
  refine V_iconst (pc := 1) (z := 5) hX (oI 5) rfl dX6_moves_1 ?_
  refine cVV1 (pc := 2) hX (c_X6_empties (a := 5) (by omega)) (by decide) st_X6_108 ix_20 rfl rfl rfl (Nat.le_of_ble_eq_true rfl) dX6_moves_2 ?_
  refine V_bipush (pc := 5) (z := (-60)) hX (oI (-60)) (by decide) dX6_moves_5 ?_
  refine V_istore (pc := 7) hX (by decide) rfl dX6_moves_7 ?_
  refine V_cut [(0, some (.ref (E.1 (20, 0)))), (1, some (.int (oI (a : Int)))), (2, some (.int (oI x))), (3, some (.int (oI y))), (4, some (.int (oI (b : Int)))), (5, some (.int (oI (((0 : Nat) : Int) - 60))))] ⟨rfl, rfl, rfl, rfl, rfl, rfl, trivial⟩ ?_
  exact outer 121 0 _ _ (by omega) rfl Out5_blk (AR_empty.congr (fun i hi j hj => (imC_0 _ _ _ _ i j).symm)) (fun i hi j hj hq => absurd hq (by omega)) (by omega)
theorem flI_0 (i j : Nat) : flI 0 i j = 119 - i := rfl
theorem flI_1 (i j : Nat) : flI 1 i j = i := rfl
theorem flI_2 (i j : Nat) : flI 2 i j = j := rfl
theorem flJ_0 (i j : Nat) : flJ 0 i j = j := rfl
theorem flJ_1 (i j : Nat) : flJ 1 i j = 119 - j := rfl
theorem flJ_2 (i j : Nat) : flJ 2 i j = i := rfl
theorem fl_lt {way : Int} (hw : 0 ≤ way ∧ way ≤ 2) {i j : Nat} (hi : i < 120) (hj : j < 120) : flI way i j < 120 ∧ flJ way i j < 120 := by
  rcases (by omega : way = 0 ∨ way = 1 ∨ way = 2) with rfl | rfl | rfl
  · rw [flI_0, flJ_0]; omega
  · rw [flI_1, flJ_1]; omega
  · rw [flI_2, flJ_2]; omega
theorem c_X6_flips {E : Le} {l : Launch} {D : Dt} {A : Cl} {a b : Nat} {way : Int} (ha : a < 5) (hb : b < 5) (hw : 0 ≤ way ∧ way ≤ 2) (hA : AR (D.2.1 21 0) a A) : ConIp E l yX6_flips cX6_flips 6 (some .int) 7 [.ref (E.1 (20, 0)), .int (oI (a : Int)), .int (oI way), .int (oI (b : Int))] D (MkP D (flipC way A) b) := by
  refine Con_of (by decide) (Nat.le_of_ble_eq_true rfl) ?_
  intro X hX hR hl; subst hl
  have outer : ∀ (m v : Nat) (D1 : Dt) (t : Nat → Int64), v ≤ 120 → D1 = lU D 21 0 t → Out5 (D.2.1 21 0) t → AR t 5 (imC A (fun _ _ => true) (flI way) (flJ way) 0 v) → 120 - v < m → Vw E X 6 D1 9 [(0, some (.ref (E.1 (20, 0)))), (1, some (.int (oI (a : Int)))), (2, some (.int (oI way))), (3, some (.int (oI (b : Int)))), (4, some (.int (oI ((v : Int) - 60))))] [] := by
    intro m
    induction m with
    | zero => intro v D1 t g1 e1 e2 e3 g4; omega
    | succ m ihO =>
      intro v D1 t g1 e1 e2 e3 g4
      have inner : v < 120 → ∀ (m u : Nat) (D1 : Dt) (t : Nat → Int64), u ≤ 120 → D1 = lU D 21 0 t → Out5 (D.2.1 21 0) t → AR t 5 (imC A (fun _ _ => true) (flI way) (flJ way) u v) → 120 - u < m → Vw E X 6 D1 20 [(0, some (.ref (E.1 (20, 0)))), (1, some (.int (oI (a : Int)))), (2, some (.int (oI way))), (3, some (.int (oI (b : Int)))), (4, some (.int (oI ((v : Int) - 60)))), (5, some (.int (oI ((u : Int) - 60))))] [] := by
        intro hv m
        induction m with
        | zero => intro u D1 t g1 e1 e2 e3 g4; omega
        | succ m ih =>
          intro u D1 t g1 e1 e2 e3 g4
          have hAv : ∀ u v : Nat, u < 120 → v < 120 → hasM (D1.2.1 21 0) a ((u : Int) - 60) ((v : Int) - 60) = A u v := fun u v hu hv => by
            rw [e1, lU_get, AR_has (hA.same (fun k hk => e2 _ (by omega))), rpC, cellB_t.mpr (by omega), Bool.true_and, show ((u : Int) - 60 + 60).toNat = u by omega, show ((v : Int) - 60 + 60).toNat = v by omega]
          refine V_iload (pc := 20) hX rfl dX6_flips_20 ?_
          refine V_bipush (pc := 22) (z := 59) hX (oI 59) (by decide) dX6_flips_22 ?_
          refine Z_icmp_gt (pc := 24) (tgt := 96) hX (by omega) (by omega) dX6_flips_24 (by decide) (fun h24 => ?_) (fun h24 => ?_)
          · refine Z_iinc (pc := 96) hX 1 rfl rfl dX6_flips_96 ?_
            refine V_goto (pc := 99) (off := (-90)) (tgt := 9) hX (by decide) dX6_flips_99 ?_
            refine V_cut [(0, some (.ref (E.1 (20, 0)))), (1, some (.int (oI (a : Int)))), (2, some (.int (oI way))), (3, some (.int (oI (b : Int)))), (4, some (.int (oI (((v + 1 : Nat) : Int) - 60))))] ⟨rfl, rfl, rfl, rfl, congrArg (fun q => some (Value.int (oI q))) (by omega), trivial⟩ ?_
            have e : u = 120 := by omega
            subst e
            exact ihO (v + 1) D1 t (by omega) e1 e2 (e3.congr (fun i hi j hj => imC_n (fun q => (fl_lt hw hi hj).1))) (by omega)
          · refine V_aload_n (pc := 27) (j := 0) hX 0 rfl rfl dX6_flips_27 ?_
            refine V_iload_n (pc := 28) (j := 1) hX 1 rfl rfl dX6_flips_28 ?_
            refine V_iload (pc := 29) hX rfl dX6_flips_29 ?_
            refine V_iload (pc := 31) hX rfl dX6_flips_31 ?_
            refine cVI3 (pc := 33) hX (c_X6_has (by omega) (by omega) (by omega)) (by decide) st_X6_65 ix_20 rfl rfl rfl (Nat.le_of_ble_eq_true rfl) dX6_flips_33 ?_
            refine B_if_eq (pc := 36) (tgt := 90) hX dX6_flips_36 (by decide) (fun h36 => ?_) (fun h36 => ?_)
            · refine Z_iinc (pc := 90) hX 1 rfl rfl dX6_flips_90 ?_
              refine V_goto (pc := 93) (off := (-73)) (tgt := 20) hX (by decide) dX6_flips_93 ?_
              refine V_cut [(0, some (.ref (E.1 (20, 0)))), (1, some (.int (oI (a : Int)))), (2, some (.int (oI way))), (3, some (.int (oI (b : Int)))), (4, some (.int (oI ((v : Int) - 60)))), (5, some (.int (oI (((u + 1 : Nat) : Int) - 60))))] ⟨rfl, rfl, rfl, rfl, rfl, congrArg (fun q => some (Value.int (oI q))) (by omega), trivial⟩ ?_
              have hu : A u v = false := by rw [← hAv u v (by omega) (by omega)]; exact h36
              exact ih (u + 1) D1 t (by omega) e1 e2 (e3.congr (fun i hi j hj => imC_f hu i j)) (by omega)
            · refine V_aload_n (pc := 39) (j := 0) hX 0 rfl rfl dX6_flips_39 ?_
              refine V_iconst (pc := 40) (z := 5) hX (oI 5) rfl dX6_flips_40 ?_
              refine V_iload_n (pc := 41) (j := 2) hX 2 rfl rfl dX6_flips_41 ?_
              refine Z_if_ne (pc := 42) (tgt := 52) hX (by omega) dX6_flips_42 (by decide) (fun h42 => ?_) (fun h42 => ?_)
              · refine V_iload_n (pc := 52) (j := 2) hX 2 rfl rfl dX6_flips_52 ?_
                refine V_iconst (pc := 53) (z := 1) hX (oI 1) rfl dX6_flips_53 ?_
                refine Z_icmp_ne (pc := 54) (tgt := 62) hX (by omega) (by omega) dX6_flips_54 (by decide) (fun h54 => ?_) (fun h54 => ?_)
                · refine V_iload (pc := 62) hX rfl dX6_flips_62 ?_
                  refine V_iload_n (pc := 64) (j := 2) hX 2 rfl rfl dX6_flips_64 ?_
                  refine Z_if_ne (pc := 65) (tgt := 73) hX (by omega) dX6_flips_65 (by decide) (fun h65 => ?_) (fun h65 => ?_)
                  · refine V_iload_n (pc := 73) (j := 2) hX 2 rfl rfl dX6_flips_73 ?_
                    refine V_iconst (pc := 74) (z := 1) hX (oI 1) rfl dX6_flips_74 ?_
                    refine Z_icmp_ne (pc := 75) (tgt := 85) hX (by omega) (by omega) dX6_flips_75 (by decide) (fun h75 => ?_) (fun h75 => ?_)
                    · refine V_iload (pc := 85) hX rfl dX6_flips_85 ?_
                      refine cVV3 (pc := 87) hX (c_X6_lays (a := 5) (by omega) (by omega) (by omega)) (by decide) st_X6_117 ix_20 rfl rfl rfl (Nat.le_of_ble_eq_true rfl) dX6_flips_87 ?_
                      refine Z_iinc (pc := 90) hX 1 rfl rfl dX6_flips_90 ?_
                      refine V_goto (pc := 93) (off := (-73)) (tgt := 20) hX (by decide) dX6_flips_93 ?_
                      refine V_cut [(0, some (.ref (E.1 (20, 0)))), (1, some (.int (oI (a : Int)))), (2, some (.int (oI way))), (3, some (.int (oI (b : Int)))), (4, some (.int (oI ((v : Int) - 60)))), (5, some (.int (oI (((u + 1 : Nat) : Int) - 60))))] ⟨rfl, rfl, rfl, rfl, rfl, congrArg (fun q => some (Value.int (oI q))) (by omega), trivial⟩ ?_
                      have hu : A u v = true := by rw [← hAv u v (by omega) (by omega)]; exact h36
                      obtain rfl : way = 2 := by omega
                      refine ih (u + 1) _ _ (by omega) (by rw [e1, lU_get, lU_lU]) (e2.tr (Out5_set (by omega) (by omega))) ((AR_set (by omega) (by omega) e3).congr (fun i hi j hj => imC_t hu ⟨rfl, by rw [flI_2]; omega, by rw [flJ_2]; omega⟩ (fun i j hi hj ho q1 q2 => by rw [flI_2] at q1; rw [flJ_2] at q2; omega) hi hj)) (by omega)
                    · omega
                  · omega
                · refine V_iload (pc := 57) hX rfl dX6_flips_57 ?_
                  refine V_goto (pc := 59) (off := 5) (tgt := 64) hX (by decide) dX6_flips_59 ?_
                  refine V_iload_n (pc := 64) (j := 2) hX 2 rfl rfl dX6_flips_64 ?_
                  refine Z_if_ne (pc := 65) (tgt := 73) hX (by omega) dX6_flips_65 (by decide) (fun h65 => ?_) (fun h65 => ?_)
                  · refine V_iload_n (pc := 73) (j := 2) hX 2 rfl rfl dX6_flips_73 ?_
                    refine V_iconst (pc := 74) (z := 1) hX (oI 1) rfl dX6_flips_74 ?_
                    refine Z_icmp_ne (pc := 75) (tgt := 85) hX (by omega) (by omega) dX6_flips_75 (by decide) (fun h75 => ?_) (fun h75 => ?_)
                    · omega
                    · refine V_iconst (pc := 78) (z := (-1)) hX (oI (-1)) rfl dX6_flips_78 ?_
                      refine V_iload (pc := 79) hX rfl dX6_flips_79 ?_
                      refine Z_isub (pc := 81) hX dX6_flips_81 ?_
                      refine V_goto (pc := 82) (off := 5) (tgt := 87) hX (by decide) dX6_flips_82 ?_
                      refine cVV3 (pc := 87) hX (c_X6_lays (a := 5) (by omega) (by omega) (by omega)) (by decide) st_X6_117 ix_20 rfl rfl rfl (Nat.le_of_ble_eq_true rfl) dX6_flips_87 ?_
                      refine Z_iinc (pc := 90) hX 1 rfl rfl dX6_flips_90 ?_
                      refine V_goto (pc := 93) (off := (-73)) (tgt := 20) hX (by decide) dX6_flips_93 ?_
                      refine V_cut [(0, some (.ref (E.1 (20, 0)))), (1, some (.int (oI (a : Int)))), (2, some (.int (oI way))), (3, some (.int (oI (b : Int)))), (4, some (.int (oI ((v : Int) - 60)))), (5, some (.int (oI (((u + 1 : Nat) : Int) - 60))))] ⟨rfl, rfl, rfl, rfl, rfl, congrArg (fun q => some (Value.int (oI q))) (by omega), trivial⟩ ?_
                      have hu : A u v = true := by rw [← hAv u v (by omega) (by omega)]; exact h36
                      obtain rfl : way = 1 := by omega
                      refine ih (u + 1) _ _ (by omega) (by rw [e1, lU_get, lU_lU]) (e2.tr (Out5_set (by omega) (by omega))) ((AR_set (by omega) (by omega) e3).congr (fun i hi j hj => imC_t hu ⟨rfl, by rw [flI_1]; omega, by rw [flJ_1]; omega⟩ (fun i j hi hj ho q1 q2 => by rw [flI_1] at q1; rw [flJ_1] at q2; omega) hi hj)) (by omega)
                  · omega
              · refine V_iconst (pc := 45) (z := (-1)) hX (oI (-1)) rfl dX6_flips_45 ?_
                refine V_iload (pc := 46) hX rfl dX6_flips_46 ?_
                refine Z_isub (pc := 48) hX dX6_flips_48 ?_
                refine V_goto (pc := 49) (off := 15) (tgt := 64) hX (by decide) dX6_flips_49 ?_
                refine V_iload_n (pc := 64) (j := 2) hX 2 rfl rfl dX6_flips_64 ?_
                refine Z_if_ne (pc := 65) (tgt := 73) hX (by omega) dX6_flips_65 (by decide) (fun h65 => ?_) (fun h65 => ?_)
                · omega
                · refine V_iload (pc := 68) hX rfl dX6_flips_68 ?_
                  refine V_goto (pc := 70) (off := 17) (tgt := 87) hX (by decide) dX6_flips_70 ?_
                  refine cVV3 (pc := 87) hX (c_X6_lays (a := 5) (by omega) (by omega) (by omega)) (by decide) st_X6_117 ix_20 rfl rfl rfl (Nat.le_of_ble_eq_true rfl) dX6_flips_87 ?_
                  refine Z_iinc (pc := 90) hX 1 rfl rfl dX6_flips_90 ?_
                  refine V_goto (pc := 93) (off := (-73)) (tgt := 20) hX (by decide) dX6_flips_93 ?_
                  refine V_cut [(0, some (.ref (E.1 (20, 0)))), (1, some (.int (oI (a : Int)))), (2, some (.int (oI way))), (3, some (.int (oI (b : Int)))), (4, some (.int (oI ((v : Int) - 60)))), (5, some (.int (oI (((u + 1 : Nat) : Int) - 60))))] ⟨rfl, rfl, rfl, rfl, rfl, congrArg (fun q => some (Value.int (oI q))) (by omega), trivial⟩ ?_
                  have hu : A u v = true := by rw [← hAv u v (by omega) (by omega)]; exact h36
                  obtain rfl : way = 0 := by omega
                  refine ih (u + 1) _ _ (by omega) (by rw [e1, lU_get, lU_lU]) (e2.tr (Out5_set (by omega) (by omega))) ((AR_set (by omega) (by omega) e3).congr (fun i hi j hj => imC_t hu ⟨rfl, by rw [flI_0]; omega, by rw [flJ_0]; omega⟩ (fun i j hi hj ho q1 q2 => by rw [flI_0] at q1; rw [flJ_0] at q2; omega) hi hj)) (by omega)
      refine V_iload (pc := 9) hX rfl dX6_flips_9 ?_
      refine V_bipush (pc := 11) (z := 59) hX (oI 59) (by decide) dX6_flips_11 ?_
      refine Z_icmp_gt (pc := 13) (tgt := 102) hX (by omega) (by omega) dX6_flips_13 (by decide) (fun h13 => ?_) (fun h13 => ?_)
      · have e : v = 120 := by omega
        subst e
        have hT : AR (D1.2.1 21 0) 5 (flipC way A) := by
          rw [e1, lU_get]
          exact e3.congr (fun i hi j hj => (imC_e (fun q => (fl_lt hw hi hj).2)).trans (Bool.true_and _))
        refine V_aload_n (pc := 102) (j := 0) hX 0 rfl rfl dX6_flips_102 ?_
        refine V_iload_n (pc := 103) (j := 3) hX 3 rfl rfl dX6_flips_103 ?_
        refine cVIp1 (pc := 104) hX (c_X6_becomes hb hT) (by decide) st_X6_114 ix_20 rfl rfl rfl (Nat.le_of_ble_eq_true rfl) dX6_flips_104 (fun r104 D104 h104 => ?_)
        refine V_iret (pc := 107) hX hR dX6_flips_107 ?_
        exact ⟨_, rfl, h104.from (by rw [e1]; exact Fr_lU D t) (by rw [e1, lU_get]; exact e2.o8)⟩
      · refine V_bipush (pc := 16) (z := (-60)) hX (oI (-60)) (by decide) dX6_flips_16 ?_
        refine V_istore (pc := 18) hX (by decide) rfl dX6_flips_18 ?_
        refine V_cut [(0, some (.ref (E.1 (20, 0)))), (1, some (.int (oI (a : Int)))), (2, some (.int (oI way))), (3, some (.int (oI (b : Int)))), (4, some (.int (oI ((v : Int) - 60)))), (5, some (.int (oI (((0 : Nat) : Int) - 60))))] ⟨rfl, rfl, rfl, rfl, rfl, rfl, trivial⟩ ?_
        exact inner (by omega) 121 0 D1 t (by omega) e1 e2 e3 (by omega)
  refine V_aload_n (pc := 0) (j := 0) hX 0 rfl rfl dX6_flips_0 ?_
  refine V_iconst (pc := 1) (z := 5) hX (oI 5) rfl dX6_flips_1 ?_
  refine cVV1 (pc := 2) hX (c_X6_empties (a := 5) (by omega)) (by decide) st_X6_108 ix_20 rfl rfl rfl (Nat.le_of_ble_eq_true rfl) dX6_flips_2 ?_
  refine V_bipush (pc := 5) (z := (-60)) hX (oI (-60)) (by decide) dX6_flips_5 ?_
  refine V_istore (pc := 7) hX (by decide) rfl dX6_flips_7 ?_
  refine V_cut [(0, some (.ref (E.1 (20, 0)))), (1, some (.int (oI (a : Int)))), (2, some (.int (oI way))), (3, some (.int (oI (b : Int)))), (4, some (.int (oI (((0 : Nat) : Int) - 60))))] ⟨rfl, rfl, rfl, rfl, rfl, trivial⟩ ?_
  exact outer 121 0 _ _ (by omega) rfl Out5_blk (AR_empty.congr (fun i hi j hj => (imC_0 _ _ _ _ i j).symm)) (by omega)
