/-! growing and shrinking by one: cells with a rim (i, j from 0 to 121) -/
def pd (S : Cl) (i j : Nat) : Bool := decide ((1 ≤ i ∧ i ≤ 120) ∧ 1 ≤ j ∧ j ≤ 120) && S (i - 1) (j - 1)
def rowG (S : Cl) (i j : Nat) : Bool := (pd S (i + 1) j || pd S i j) || pd S (i + 2) j
def rowS (S : Cl) (i j : Nat) : Bool := (pd S (i + 1) j && pd S i j) && pd S (i + 2) j
def stepC (m : Bool) (S : Cl) : Cl := fun i j => if m then (rowG S i j || rowG S i (j + 1)) || rowG S i (j + 2) else (rowS S i j && rowS S i (j + 1)) && rowS S i (j + 2)
theorem pd_in {S : Cl} {i j : Nat} (hi : i < 120) (hj : j < 120) : pd S (i + 1) (j + 1) = S i j := by
  rw [pd, decide_eq_true (by omega), Bool.true_and]; rfl
theorem pd_i0 (S : Cl) (j : Nat) : pd S 0 j = false := by rw [pd, decide_eq_false (by omega), Bool.false_and]
theorem pd_i1 (S : Cl) (j : Nat) : pd S 121 j = false := by rw [pd, decide_eq_false (by omega), Bool.false_and]
theorem pd_j {S : Cl} {i j : Nat} (h : j = 0 ∨ 121 ≤ j) : pd S i j = false := by rw [pd, decide_eq_false (by omega), Bool.false_and]
theorem rA_tb {s : Nat → Int64} {S : Cl} (h : AR s 6 S) {v n k : Nat} (hv : v < 120) (hn : n < 3) (hk : k < 60) : tb (rA s v n) k = pd S (k + 1) (v + n) := by
  rw [rA]
  by_cases q : inB ((v : Int) - 61 + n) (-60) 59 = true
  · have q2 := inB_t.mp q
    rw [if_pos q, show v + n = (v + n - 1) + 1 by omega, pd_in (by omega) (by omega), ← h.2 k (by omega) (v + n - 1) (by omega), cM]
    congr 2
    · omega
    · omega
  · rw [if_neg q, tb_0, pd_j]
    have q2 := inB_f.mp (Bool.eq_false_iff.mpr q)
    omega
theorem rB_tb {s : Nat → Int64} {S : Cl} (h : AR s 6 S) {v n k : Nat} (hv : v < 120) (hn : n < 3) (hk : k < 60) : tb (rB s v n) k = pd S (k + 61) (v + n) := by
  rw [rB]
  by_cases q : inB ((v : Int) - 61 + n) (-60) 59 = true
  · have q2 := inB_t.mp q
    rw [if_pos q, show v + n = (v + n - 1) + 1 by omega, show k + 61 = (k + 60) + 1 by omega, pd_in (by omega) (by omega), ← h.2 (k + 60) (by omega) (v + n - 1) (by omega), cM]
    congr 2
    · omega
    · omega
  · rw [if_neg q, tb_0, pd_j]
    have q2 := inB_f.mp (Bool.eq_false_iff.mpr q)
    omega
theorem rA_60 {s : Nat → Int64} {S : Cl} (h : AR s 6 S) {v n : Nat} (hv : v < 120) (hn : n < 3) : b60 (rA s v n) := by
  rw [rA]
  by_cases q : inB ((v : Int) - 61 + n) (-60) 59 = true
  · have q2 := inB_t.mp q
    rw [if_pos q]
    exact h.1 (2 * (v + n - 1)) (by omega)
  · rw [if_neg q]; exact b60_0
theorem rB_60 {s : Nat → Int64} {S : Cl} (h : AR s 6 S) {v n : Nat} (hv : v < 120) (hn : n < 3) : b60 (rB s v n) := by
  rw [rB]
  by_cases q : inB ((v : Int) - 61 + n) (-60) 59 = true
  · have q2 := inB_t.mp q
    rw [if_pos q]
    exact h.1 (2 * (v + n - 1) + 1) (by omega)
  · rw [if_neg q]; exact b60_0
section ACC
variable {s : Nat → Int64} {S : Cl}
theorem up_tb (h : AR s 6 S) {v n k : Nat} (hv : v < 120) (hn : n < 3) (hk : k < 60) : tb (upA (rA s v n)) k = pd S k (v + n) ∧ tb (dnA (rA s v n) (rB s v n)) k = pd S (k + 2) (v + n) := by
  refine ⟨?_, ?_⟩
  · rw [upA_tb _ hk]
    by_cases q : 1 ≤ k
    · rw [decide_eq_true q, Bool.true_and, rA_tb h hv hn (by omega), show k - 1 + 1 = k by omega]
    · rw [decide_eq_false q, Bool.false_and, show k = 0 by omega, pd_i0]
  · rw [dnA_tb (rA_60 h hv hn) hk]
    by_cases q : k = 59
    · rw [if_pos q, rB_tb h hv hn (by omega), q]
    · rw [if_neg q, rA_tb h hv hn (by omega)]
theorem ub_tb (h : AR s 6 S) {v n k : Nat} (hv : v < 120) (hn : n < 3) (hk : k < 60) : tb (upB (rA s v n) (rB s v n)) k = pd S (k + 60) (v + n) ∧ tb (dnB (rB s v n)) k = pd S (k + 62) (v + n) := by
  refine ⟨?_, ?_⟩
  · rw [upB_tb (rA_60 h hv hn) hk]
    by_cases q : k = 0
    · rw [if_pos q, rA_tb h hv hn (by omega), q]
    · rw [if_neg q, rB_tb h hv hn (by omega), show k - 1 + 61 = k + 60 by omega]
  · rw [dnB_tb _ hk]
    by_cases q : k < 59
    · rw [rB_tb h hv hn (by omega)]
    · rw [rB_60 h hv hn _ (by omega), show k + 62 = 121 by omega, pd_i1]
theorem accL_tb (h : AR s 6 S) {v k : Nat} (hv : v < 120) (hk : k < 60) (m : Bool) : tb (accL m (rA s v) (rB s v) 3) k = stepC m S k v := by
  cases m with
  | true =>
    simp only [accL, stepC, if_true, tb_or, tb_0, Bool.false_or, rowG]
    rw [rA_tb h hv (by decide) hk, rA_tb h hv (by decide) hk, rA_tb h hv (by decide) hk, (up_tb h hv (by decide) hk).1, (up_tb h hv (by decide) hk).1, (up_tb h hv (by decide) hk).1, (up_tb h hv (by decide) hk).2, (up_tb h hv (by decide) hk).2, (up_tb h hv (by decide) hk).2]
    simp only [Bool.or_assoc, Nat.add_zero]
  | false =>
    simp only [accL, stepC, if_false, tb_and, tb_all, rowS, decide_eq_true hk, Bool.true_and, Bool.false_eq_true]
    rw [rA_tb h hv (by decide) hk, rA_tb h hv (by decide) hk, rA_tb h hv (by decide) hk, (up_tb h hv (by decide) hk).1, (up_tb h hv (by decide) hk).1, (up_tb h hv (by decide) hk).1, (up_tb h hv (by decide) hk).2, (up_tb h hv (by decide) hk).2, (up_tb h hv (by decide) hk).2]
    simp only [Bool.and_assoc, Nat.add_zero]
theorem accR_tb (h : AR s 6 S) {v k : Nat} (hv : v < 120) (hk : k < 60) (m : Bool) : tb (accR m (rA s v) (rB s v) 3) k = stepC m S (k + 60) v := by
  cases m with
  | true =>
    simp only [accR, stepC, if_true, tb_or, tb_0, Bool.false_or, rowG]
    rw [rB_tb h hv (by decide) hk, rB_tb h hv (by decide) hk, rB_tb h hv (by decide) hk, (ub_tb h hv (by decide) hk).1, (ub_tb h hv (by decide) hk).1, (ub_tb h hv (by decide) hk).1, (ub_tb h hv (by decide) hk).2, (ub_tb h hv (by decide) hk).2, (ub_tb h hv (by decide) hk).2]
    simp only [Bool.or_assoc, Nat.add_zero]
  | false =>
    simp only [accR, stepC, if_false, tb_and, tb_all, rowS, decide_eq_true hk, Bool.true_and, Bool.false_eq_true]
    rw [rB_tb h hv (by decide) hk, rB_tb h hv (by decide) hk, rB_tb h hv (by decide) hk, (ub_tb h hv (by decide) hk).1, (ub_tb h hv (by decide) hk).1, (ub_tb h hv (by decide) hk).1, (ub_tb h hv (by decide) hk).2, (ub_tb h hv (by decide) hk).2, (ub_tb h hv (by decide) hk).2]
    simp only [Bool.and_assoc, Nat.add_zero]
theorem b60_or {u v : Int64} (hu : b60 u) (hv : b60 v) : b60 (u ||| v) := fun i hi => by rw [tb_or, hu i hi, hv i hi]; rfl
theorem b60_and {u v : Int64} (hu : b60 u) : b60 (u &&& v) := fun i hi => by rw [tb_and, hu i hi]; rfl
theorem b60_ALc : b60 ALc := fun i hi => by rw [tb_all]; simp; omega
theorem acc_60 (h : AR s 6 S) {v : Nat} (hv : v < 120) (m : Bool) : ∀ n, n ≤ 3 → b60 (accL m (rA s v) (rB s v) n) ∧ b60 (accR m (rA s v) (rB s v) n)
  | 0, _ => by cases m <;> first | exact ⟨b60_0, b60_0⟩ | exact ⟨b60_ALc, b60_ALc⟩
  | n + 1, hn => by
    have ih := acc_60 h hv m n (by omega)
    have ha := rA_60 h hv (n := n) (by omega)
    have hb := rB_60 h hv (n := n) (by omega)
    cases m with
    | true => exact ⟨b60_or (b60_or (b60_or ih.1 ha) (upA_60 _)) (dnA_60 ha), b60_or (b60_or (b60_or ih.2 hb) (upB_60 _ _)) (dnB_60 hb)⟩
    | false => exact ⟨b60_and (b60_and (b60_and ih.1)), b60_and (b60_and (b60_and ih.2))⟩
theorem AR_step {t : Nat → Int64} (h : AR s 6 S) (m : Bool) (ht : ∀ k, k < 240 → t (1200 + k) = stpL m s k) : AR t 5 (stepC m S) := by
  refine ⟨fun k hk => ?_, fun i hi j hj => ?_⟩
  · rw [show 240 * 5 = 1200 from rfl, ht k hk, stpL]
    have q := acc_60 h (v := k / 2) (by omega) m 3 (by omega)
    split
    · exact q.1
    · exact q.2
  · rw [cM, show 240 * 5 + 2 * j + i / 60 = 1200 + (2 * j + i / 60) by omega, ht _ (by omega), stpL]
    by_cases q : i < 60
    · rw [if_pos (by omega), show (2 * j + i / 60) / 2 = j by omega, show i % 60 = i by omega, accL_tb h hj q]
    · rw [if_neg (by omega), show (2 * j + i / 60) / 2 = j by omega, accR_tb h hj (by omega), show i % 60 + 60 = i by omega]
end ACC
def itS (m : Bool) : Nat → Cl → Cl
  | 0, S => S
  | k + 1, S => stepC m (itS m k S)
def growC (n : Int) (S : Cl) : Cl := itS (decide (0 < n)) n.natAbs S
/-- step(more) over an area 5 that holds S -/
theorem step_AR {D : Dt} {S : Cl} {m : Bool} {t : Nat → Int64} (h : AR (D.2.1 21 0) 5 S) (ht : t = blk (blk (D.2.1 21 0) 6 (fun i => D.2.1 21 0 (240 * 5 + i)) 240) 5 (stpL m (blk (D.2.1 21 0) 6 (fun i => D.2.1 21 0 (240 * 5 + i)) 240)) (2 * 120)) : AR t 5 (stepC m S) ∧ Out8 (D.2.1 21 0) t := by
  subst ht
  refine ⟨AR_step (h.same (fun k hk => blk_in hk)) m (fun k hk => blk_in (a := 5) hk), fun k hk => ?_⟩
  rw [blk_out (by omega), blk_out (by omega)]
theorem c_X6_grows {E : Le} {l : Launch} {D : Dt} {A : Cl} {a b : Nat} {n : Int} (ha : a < 5) (hb : b < 5) (hn : -9 ≤ n ∧ n ≤ 9) (hA : AR (D.2.1 21 0) a A) : ConIp E l yX6_grows cX6_grows 5 (some .int) 7 [.ref (E.1 (20, 0)), .int (oI (a : Int)), .int (oI n), .int (oI (b : Int))] D (MkP D (growC n A) b) := by
  refine Con_of (by decide) (Nat.le_of_ble_eq_true rfl) ?_
  intro X hX hR hl; subst hl
  have loop : ∀ (m : Nat) (k : Nat) (D1 : Dt), k ≤ n.natAbs → (Fr D D1 ∧ Out8 (D.2.1 21 0) (D1.2.1 21 0) ∧ AR (D1.2.1 21 0) 5 (itS (decide (0 < n)) k A)) → n.natAbs - k < m → Vw E X 5 D1 9 [(0, some (.ref (E.1 (20, 0)))), (1, some (.int (oI (a : Int)))), (2, some (.int (oI n))), (3, some (.int (oI (b : Int)))), (4, some (.int (oI (k : Int))))] [] := by
    intro m
    induction m with
    | zero => intro k D1 g1 g2 g3; omega
    | succ m ih =>
      intro k D1 g1 g2 g3
      refine V_iload (pc := 9) hX rfl dX6_grows_9 ?_
      refine V_iload_n (pc := 11) (j := 2) hX 2 rfl rfl dX6_grows_11 ?_
      refine Z_if_ge (pc := 12) (tgt := 20) hX (by omega) dX6_grows_12 (by decide) (fun h12 => ?_) (fun h12 => ?_)
      · refine V_iload_n (pc := 20) (j := 2) hX 2 rfl rfl dX6_grows_20 ?_
        refine Z_icmp_ge (pc := 21) (tgt := 43) hX (by omega) (by omega) dX6_grows_21 (by decide) (fun h21 => ?_) (fun h21 => ?_)
        · have e : k = n.natAbs := by omega
          subst e
          have hT : AR (D1.2.1 21 0) 5 (growC n A) := g2.2.2
          refine V_aload_n (pc := 43) (j := 0) hX 0 rfl rfl dX6_grows_43 ?_
          refine V_iload_n (pc := 44) (j := 3) hX 3 rfl rfl dX6_grows_44 ?_
          refine cVIp1 (pc := 45) hX (c_X6_becomes hb hT) (by decide) st_X6_114 ix_20 rfl rfl rfl (Nat.le_of_ble_eq_true rfl) dX6_grows_45 (fun r45 D45 h45 => ?_)
          refine V_iret (pc := 48) hX hR dX6_grows_48 ?_
          exact ⟨_, rfl, h45.from g2.1 g2.2.1⟩
        · refine V_aload_n (pc := 24) (j := 0) hX 0 rfl rfl dX6_grows_24 ?_
          refine V_iload_n (pc := 25) (j := 2) hX 2 rfl rfl dX6_grows_25 ?_
          refine Z_if_le (pc := 26) (tgt := 33) hX (by omega) dX6_grows_26 (by decide) (fun h26 => ?_) (fun h26 => ?_)
          · refine V_iconst (pc := 33) (z := 0) hX (oI 0) rfl dX6_grows_33 ?_
            refine V_bI (decide (0 < n)) (by rw [decide_eq_false (by omega)]; decide) ?_
            refine cVV1 (pc := 34) hX (c_X6_step) (by decide) st_X6_125 ix_20 rfl rfl rfl (Nat.le_of_ble_eq_true rfl) dX6_grows_34 ?_
            refine Z_iinc (pc := 37) hX 1 rfl rfl dX6_grows_37 ?_
            refine V_goto (pc := 40) (off := (-31)) (tgt := 9) hX (by decide) dX6_grows_40 ?_
            refine V_cut [(0, some (.ref (E.1 (20, 0)))), (1, some (.int (oI (a : Int)))), (2, some (.int (oI n))), (3, some (.int (oI (b : Int)))), (4, some (.int (oI ((k + 1 : Nat) : Int))))] ⟨rfl, rfl, rfl, rfl, rfl, trivial⟩ ?_
            have q := step_AR (m := decide (0 < n)) g2.2.2 rfl
            exact ih (k + 1) _ (by omega) ⟨g2.1.tr (Fr_lU _ _), by rw [lU_get]; exact g2.2.1.tr q.2, by rw [lU_get]; exact q.1⟩ (by omega)
          · refine V_iconst (pc := 29) (z := 1) hX (oI 1) rfl dX6_grows_29 ?_
            refine V_goto (pc := 30) (off := 4) (tgt := 34) hX (by decide) dX6_grows_30 ?_
            refine V_bI (decide (0 < n)) (by rw [decide_eq_true (by omega)]; decide) ?_
            refine cVV1 (pc := 34) hX (c_X6_step) (by decide) st_X6_125 ix_20 rfl rfl rfl (Nat.le_of_ble_eq_true rfl) dX6_grows_34 ?_
            refine Z_iinc (pc := 37) hX 1 rfl rfl dX6_grows_37 ?_
            refine V_goto (pc := 40) (off := (-31)) (tgt := 9) hX (by decide) dX6_grows_40 ?_
            refine V_cut [(0, some (.ref (E.1 (20, 0)))), (1, some (.int (oI (a : Int)))), (2, some (.int (oI n))), (3, some (.int (oI (b : Int)))), (4, some (.int (oI ((k + 1 : Nat) : Int))))] ⟨rfl, rfl, rfl, rfl, rfl, trivial⟩ ?_
            have q := step_AR (m := decide (0 < n)) g2.2.2 rfl
            exact ih (k + 1) _ (by omega) ⟨g2.1.tr (Fr_lU _ _), by rw [lU_get]; exact g2.2.1.tr q.2, by rw [lU_get]; exact q.1⟩ (by omega)
      · refine V_iload_n (pc := 15) (j := 2) hX 2 rfl rfl dX6_grows_15 ?_
        refine Z_ineg (pc := 16) hX dX6_grows_16 ?_
        refine V_goto (pc := 17) (off := 4) (tgt := 21) hX (by decide) dX6_grows_17 ?_
        refine Z_icmp_ge (pc := 21) (tgt := 43) hX (by omega) (by omega) dX6_grows_21 (by decide) (fun h21 => ?_) (fun h21 => ?_)
        · have e : k = n.natAbs := by omega
          subst e
          have hT : AR (D1.2.1 21 0) 5 (growC n A) := g2.2.2
          refine V_aload_n (pc := 43) (j := 0) hX 0 rfl rfl dX6_grows_43 ?_
          refine V_iload_n (pc := 44) (j := 3) hX 3 rfl rfl dX6_grows_44 ?_
          refine cVIp1 (pc := 45) hX (c_X6_becomes hb hT) (by decide) st_X6_114 ix_20 rfl rfl rfl (Nat.le_of_ble_eq_true rfl) dX6_grows_45 (fun r45 D45 h45 => ?_)
          refine V_iret (pc := 48) hX hR dX6_grows_48 ?_
          exact ⟨_, rfl, h45.from g2.1 g2.2.1⟩
        · refine V_aload_n (pc := 24) (j := 0) hX 0 rfl rfl dX6_grows_24 ?_
          refine V_iload_n (pc := 25) (j := 2) hX 2 rfl rfl dX6_grows_25 ?_
          refine Z_if_le (pc := 26) (tgt := 33) hX (by omega) dX6_grows_26 (by decide) (fun h26 => ?_) (fun h26 => ?_)
          · refine V_iconst (pc := 33) (z := 0) hX (oI 0) rfl dX6_grows_33 ?_
            refine V_bI (decide (0 < n)) (by rw [decide_eq_false (by omega)]; decide) ?_
            refine cVV1 (pc := 34) hX (c_X6_step) (by decide) st_X6_125 ix_20 rfl rfl rfl (Nat.le_of_ble_eq_true rfl) dX6_grows_34 ?_
            refine Z_iinc (pc := 37) hX 1 rfl rfl dX6_grows_37 ?_
            refine V_goto (pc := 40) (off := (-31)) (tgt := 9) hX (by decide) dX6_grows_40 ?_
            refine V_cut [(0, some (.ref (E.1 (20, 0)))), (1, some (.int (oI (a : Int)))), (2, some (.int (oI n))), (3, some (.int (oI (b : Int)))), (4, some (.int (oI ((k + 1 : Nat) : Int))))] ⟨rfl, rfl, rfl, rfl, rfl, trivial⟩ ?_
            have q := step_AR (m := decide (0 < n)) g2.2.2 rfl
            exact ih (k + 1) _ (by omega) ⟨g2.1.tr (Fr_lU _ _), by rw [lU_get]; exact g2.2.1.tr q.2, by rw [lU_get]; exact q.1⟩ (by omega)
          · refine V_iconst (pc := 29) (z := 1) hX (oI 1) rfl dX6_grows_29 ?_
            refine V_goto (pc := 30) (off := 4) (tgt := 34) hX (by decide) dX6_grows_30 ?_
            refine V_bI (decide (0 < n)) (by rw [decide_eq_true (by omega)]; decide) ?_
            refine cVV1 (pc := 34) hX (c_X6_step) (by decide) st_X6_125 ix_20 rfl rfl rfl (Nat.le_of_ble_eq_true rfl) dX6_grows_34 ?_
            refine Z_iinc (pc := 37) hX 1 rfl rfl dX6_grows_37 ?_
            refine V_goto (pc := 40) (off := (-31)) (tgt := 9) hX (by decide) dX6_grows_40 ?_
            refine V_cut [(0, some (.ref (E.1 (20, 0)))), (1, some (.int (oI (a : Int)))), (2, some (.int (oI n))), (3, some (.int (oI (b : Int)))), (4, some (.int (oI ((k + 1 : Nat) : Int))))] ⟨rfl, rfl, rfl, rfl, rfl, trivial⟩ ?_
            have q := step_AR (m := decide (0 < n)) g2.2.2 rfl
            exact ih (k + 1) _ (by omega) ⟨g2.1.tr (Fr_lU _ _), by rw [lU_get]; exact g2.2.1.tr q.2, by rw [lU_get]; exact q.1⟩ (by omega)
  refine V_aload_n (pc := 0) (j := 0) hX 0 rfl rfl dX6_grows_0 ?_
  refine V_iload_n (pc := 1) (j := 1) hX 1 rfl rfl dX6_grows_1 ?_
  refine V_iconst (pc := 2) (z := 5) hX (oI 5) rfl dX6_grows_2 ?_
  refine cVV2 (pc := 3) hX (c_X6_copies (a := a) (b := 5) (by omega) (by omega)) (by decide) st_X6_97 ix_20 rfl rfl rfl (Nat.le_of_ble_eq_true rfl) dX6_grows_3 ?_
  refine V_iconst (pc := 6) (z := 0) hX (oI 0) rfl dX6_grows_6 ?_
  refine V_istore (pc := 7) hX (by decide) rfl dX6_grows_7 ?_
  refine V_cut [(0, some (.ref (E.1 (20, 0)))), (1, some (.int (oI (a : Int)))), (2, some (.int (oI n))), (3, some (.int (oI (b : Int)))), (4, some (.int (oI ((0 : Nat) : Int))))] ⟨rfl, rfl, rfl, rfl, rfl, trivial⟩ ?_
  exact loop _ 0 _ (Nat.zero_le _) ⟨Fr_lU D _, by rw [lU_get]; exact Out5_blk.o8, by rw [lU_get]; exact hA.same (fun k hk => blk_in hk)⟩ (Nat.lt_succ_self _)
