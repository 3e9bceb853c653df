/-! THE CLASS: what is made -/
def LyB (D : Dt) (so : Bool) (T : Cl) (r : Int32) (D' : Dt) : Prop := r = bI so ∧ LK D D' ∧ (so = true → AC D' (D.2.2 0 2) T)
theorem LK.step {D D1 D2 : Dt} {T : Cl} (h : LK D D1) (k : Az (D1.2.2 0 2) D1 D2 ∧ AC D2 (D1.2.2 0 2) T) : LK D D2 ∧ AC D2 (D2.2.2 0 2) T := by
  refine ⟨h.tr (Az.lk k.1), ?_⟩
  rw [k.1.2.1]; exact k.2
theorem LyQ_of {D D1 : Dt} {T : Cl} (h : LK D D1) (k : AC D1 (D1.2.2 0 2) T) : LyQ D T D1 := by
  refine ⟨h, ?_⟩
  rw [h.2.1] at k; exact k
theorem LyQ_st {D D1 D2 : Dt} {T : Cl} (h : LK D D1) (k : Az (D1.2.2 0 2) D1 D2 ∧ AC D2 (D1.2.2 0 2) T) : LyQ D T D2 := LyQ_of (h.step k).1 (h.step k).2
theorem LyQ.b {D D1 : Dt} {T : Cl} (h : LyQ D T D1) : LyB D true T (oI 1) D1 := ⟨bI_1 rfl, h.1, fun _ => h.2⟩
theorem LyB.q {D D1 : Dt} {T : Cl} {so : Bool} {r : Int32} (h : LyB D so T r D1) (hs : so = true) : LyQ D T D1 := ⟨h.2.1, h.2.2 hs⟩
theorem box_fill {x y w h : Int} (i j : Nat) : fillC noC x y (x + w) (y + h) i j = boxC x y w h i j := by
  unfold fillC noC boxC
  rw [Bool.false_or]
  exact decide_eq_decide.mpr (by omega)
/-! growing, step by step -/
def gwC (n : Int) (k : Nat) (S : Cl) : Cl := if n < 0 then restC (itS false k S) else itS true k S
theorem gw_neg {n : Int} (h : n < 0) (k : Nat) (S : Cl) : gwC n k S = restC (itS false k S) := if_pos h
theorem gw_pos {n : Int} (h : ¬ n < 0) (k : Nat) (S : Cl) : gwC n k S = itS true k S := if_neg h
theorem gw_end0 {n : Int} (h : ¬ n < 0) (S : Cl) : gwC n n.natAbs S = growC n S := by
  rw [gw_pos h, growC]
  by_cases c : 0 < n
  · rw [decide_eq_true c]
  · rw [show n.natAbs = 0 by omega]; rfl
theorem gw_end1 {n : Int} (h : n < 0) (S : Cl) : restC (gwC n n.natAbs S) = growC n S := by
  rw [gw_neg h, growC, decide_eq_false (by omega)]
  funext i j
  show (!!(itS false n.natAbs S i j)) = _
  rw [Bool.not_not]
theorem gw_s0 {n : Int} (h : ¬ n < 0) (k : Nat) (S : Cl) : ∀ i, i < 120 → ∀ j, j < 120 → spC false (gwC n k S) i j = gwC n (k + 1) S i j := by
  rw [gw_pos h, gw_pos h]
  exact step_t
theorem gw_s1 {n : Int} (h : n < 0) (k : Nat) (S : Cl) : ∀ i, i < 120 → ∀ j, j < 120 → spC true (gwC n k S) i j = gwC n (k + 1) S i j := by
  rw [gw_neg h, gw_neg h]
  exact step_f
theorem dr_fill {sd k : Nat} {S : Cl} (i j : Nat) : fillC (drS k sd S) (((lcR (k + 1) sd / 65536 % 40 : Nat) : Int) - 25) (((lcR (k + 1) sd / 4096 % 40 : Nat) : Int) - 25) (((lcR (k + 1) sd / 65536 % 40 : Nat) : Int) - 25 + (((lcR (k + 1) sd / 1024 % 12 : Nat) : Int) + 1)) (((lcR (k + 1) sd / 4096 % 40 : Nat) : Int) - 25 + (((lcR (k + 1) sd / 32 % 12 : Nat) : Int) + 1)) i j = drS (k + 1) sd S i j := by
  show (drS k sd S i j || _) = (drS k sd S i j || dB (lcR (k + 1) sd) i j)
  unfold dB boxC
  congr 1
  exact decide_eq_decide.mpr (by omega)
theorem c_X5_layBox {E : Le} {l : Launch} {D : Dt} {x y w h : Int} (hx : -60 ≤ x ∧ x ≤ 59) (hy : -60 ≤ y ∧ y ≤ 59) (hw : 1 ≤ w ∧ w ≤ 99) (hh : 1 ≤ h ∧ h ≤ 99) : ConIp E l yX5_layBox cX5_layBox 5 (some .boolean) 3 [.ref (E.1 (0, 0)), .int (oI x), .int (oI y), .int (oI w), .int (oI h)] D (LyB D (decide (¬ (60 < x + w ∨ 60 < y + h))) (boxC x y w h)) := by
  refine Con_of (by decide) (Nat.le_of_ble_eq_true rfl) ?_
  intro X hX hR hl; subst hl
  refine V_iload_n (pc := 0) (j := 1) hX 1 rfl rfl dX5_layBox_0 ?_
  refine V_iload_n (pc := 1) (j := 3) hX 3 rfl rfl dX5_layBox_1 ?_
  refine Z_iadd (pc := 2) hX dX5_layBox_2 ?_
  refine V_bipush (pc := 3) (z := 60) hX (oI 60) (by decide) dX5_layBox_3 ?_
  refine Z_icmp_gt (pc := 5) (tgt := 17) hX (by omega) (by omega) dX5_layBox_5 (by decide) (fun h5 => ?_) (fun h5 => ?_)
  · refine V_iconst (pc := 17) (z := 0) hX (oI 0) rfl dX5_layBox_17 ?_
    refine V_zret (pc := 18) hX hR (by decide) dX5_layBox_18 ?_
    exact ⟨_, rfl, bI_0 (decide_eq_false (by omega)), LK.rf D, fun q => absurd (of_decide_eq_true q) (by omega)⟩
  · refine V_iload_n (pc := 8) (j := 2) hX 2 rfl rfl dX5_layBox_8 ?_
    refine V_iload (pc := 9) hX rfl dX5_layBox_9 ?_
    refine Z_iadd (pc := 11) hX dX5_layBox_11 ?_
    refine V_bipush (pc := 12) (z := 60) hX (oI 60) (by decide) dX5_layBox_12 ?_
    refine Z_icmp_le (pc := 14) (tgt := 19) hX (by omega) (by omega) dX5_layBox_14 (by decide) (fun h14 => ?_) (fun h14 => ?_)
    · refine V_aload_n (pc := 19) (j := 0) hX 0 rfl rfl dX5_layBox_19 ?_
      refine gf_X5_19 (pc := 20) hX dX5_layBox_20 ?_
      refine cVVp0 (pc := 23) hX (c_X0_empty) (by decide) st_X5_208 (ix_1 _) rfl rfl rfl (Nat.le_of_ble_eq_true rfl) dX5_layBox_23 (fun D23 h23 => ?_)
      have hB := (LK.rf D).step h23
      refine V_aload_n (pc := 26) (j := 0) hX 0 rfl rfl dX5_layBox_26 ?_
      refine gf_X5_19 (pc := 27) hX dX5_layBox_27 ?_
      refine V_iload_n (pc := 30) (j := 1) hX 1 rfl rfl dX5_layBox_30 ?_
      refine V_iload_n (pc := 31) (j := 2) hX 2 rfl rfl dX5_layBox_31 ?_
      refine V_iload_n (pc := 32) (j := 1) hX 1 rfl rfl dX5_layBox_32 ?_
      refine V_iload_n (pc := 33) (j := 3) hX 3 rfl rfl dX5_layBox_33 ?_
      refine Z_iadd (pc := 34) hX dX5_layBox_34 ?_
      refine V_iload_n (pc := 35) (j := 2) hX 2 rfl rfl dX5_layBox_35 ?_
      refine V_iload (pc := 36) hX rfl dX5_layBox_36 ?_
      refine Z_iadd (pc := 38) hX dX5_layBox_38 ?_
      refine cVVp4 (pc := 39) hX (c_X0_fill (S := noC) (by omega) (by omega) (by omega) (by omega) hB.2) (by decide) st_X5_211 (ix_1 _) rfl rfl rfl (Nat.le_of_ble_eq_true rfl) dX5_layBox_39 (fun D39 h39 => ?_)
      refine V_iconst (pc := 42) (z := 1) hX (oI 1) rfl dX5_layBox_42 ?_
      refine V_zret (pc := 43) hX hR (by decide) dX5_layBox_43 ?_
      have q := LyQ_st hB.1 h39
      exact ⟨_, rfl, bI_1 (decide_eq_true (by omega)), q.1, fun _ => AR.congr q.2 (fun i _ j _ => box_fill i j)⟩
    · refine V_iconst (pc := 17) (z := 0) hX (oI 0) rfl dX5_layBox_17 ?_
      refine V_zret (pc := 18) hX hR (by decide) dX5_layBox_18 ?_
      exact ⟨_, rfl, bI_0 (decide_eq_false (by omega)), LK.rf D, fun q => absurd (of_decide_eq_true q) (by omega)⟩
theorem c_X5_layMoved {E : Le} {l : Launch} {D : Dt} {z : Fin 11} {S : Cl} (hA : AC D z S) (hf : fitC S = true) {x y : Int} (hx : -120 ≤ x ∧ x ≤ 120) (hy : -120 ≤ y ∧ y ≤ 120) : ConIp E l yX5_layMoved cX5_layMoved 4 (some .boolean) 5 [.ref (E.1 (0, 0)), .ref (E.1 (1, z)), .int (oI x), .int (oI y)] D (LyB D (mvOKB x y S) (moveC x y S)) := by
  refine Con_of (by decide) (Nat.le_of_ble_eq_true rfl) ?_
  intro X hX hR hl; subst hl
  refine V_aload_n (pc := 0) (j := 0) hX 0 rfl rfl dX5_layMoved_0 ?_
  refine gf_X5_26 (pc := 1) hX dX5_layMoved_1 ?_
  refine V_aload_n (pc := 4) (j := 1) hX 1 rfl rfl dX5_layMoved_4 ?_
  refine cVIp1 (pc := 5) hX (c_X1_read (S := S) hA) (by decide) st_X5_104 ix_5 rfl rfl rfl (Nat.le_of_ble_eq_true rfl) dX5_layMoved_5 (fun r5 D5 h5 => ?_)
  obtain ⟨rfl, hK, hFm⟩ := h5
  have hF := hFm hf
  refine V_pop (pc := 8) hX rfl dX5_layMoved_8 ?_
  refine V_aload_n (pc := 9) (j := 0) hX 0 rfl rfl dX5_layMoved_9 ?_
  refine gf_X5_26 (pc := 10) hX dX5_layMoved_10 ?_
  refine V_iload_n (pc := 13) (j := 2) hX 2 rfl rfl dX5_layMoved_13 ?_
  refine V_iload_n (pc := 14) (j := 3) hX 3 rfl rfl dX5_layMoved_14 ?_
  refine cVI2 (pc := 15) hX (c_X1_staysInside (S := S) hF hx hy) (by decide) st_X5_215 ix_5 rfl rfl rfl (Nat.le_of_ble_eq_true rfl) dX5_layMoved_15 ?_
  refine B_if_ne (pc := 18) (tgt := 23) hX dX5_layMoved_18 (by decide) (fun h18 => ?_) (fun h18 => ?_)
  · refine V_aload_n (pc := 23) (j := 0) hX 0 rfl rfl dX5_layMoved_23 ?_
    refine gf_X5_26 (pc := 24) hX dX5_layMoved_24 ?_
    refine V_aload_n (pc := 27) (j := 0) hX 0 rfl rfl dX5_layMoved_27 ?_
    refine gf_X5_19 (pc := 28) hX dX5_layMoved_28 ?_
    refine V_iload_n (pc := 31) (j := 2) hX 2 rfl rfl dX5_layMoved_31 ?_
    refine V_iload_n (pc := 32) (j := 3) hX 3 rfl rfl dX5_layMoved_32 ?_
    refine cVVp3 (pc := 33) hX (c_X1_layMoved (S := S) hF hx hy) (by decide) st_X5_218 ix_5 rfl rfl rfl (Nat.le_of_ble_eq_true rfl) dX5_layMoved_33 (fun D33 h33 => ?_)
    refine V_iconst (pc := 36) (z := 1) hX (oI 1) rfl dX5_layMoved_36 ?_
    refine V_zret (pc := 37) hX hR (by decide) dX5_layMoved_37 ?_
    have q := LyQ_st hK.lk h33
    exact ⟨_, rfl, bI_1 h18, q.1, fun _ => q.2⟩
  · refine V_iconst (pc := 21) (z := 0) hX (oI 0) rfl dX5_layMoved_21 ?_
    refine V_zret (pc := 22) hX hR (by decide) dX5_layMoved_22 ?_
    exact ⟨_, rfl, bI_0 h18, hK.lk, fun q => absurd (h18.symm.trans q) (by decide)⟩
theorem c_X5_layTurned {E : Le} {l : Launch} {D : Dt} {z : Fin 11} {S : Cl} (hA : AC D z S) (hf : fitC S = true) {way : Int} (hw : 0 ≤ way ∧ way ≤ 2) : ConVp E l yX5_layTurned cX5_layTurned 3 none 5 [.ref (E.1 (0, 0)), .ref (E.1 (1, z)), .int (oI way)] D (LyQ D (flipC way S)) := by
  refine Con_of (by decide) (Nat.le_of_ble_eq_true rfl) ?_
  intro X hX hR hl; subst hl
  refine V_aload_n (pc := 0) (j := 0) hX 0 rfl rfl dX5_layTurned_0 ?_
  refine gf_X5_26 (pc := 1) hX dX5_layTurned_1 ?_
  refine V_aload_n (pc := 4) (j := 1) hX 1 rfl rfl dX5_layTurned_4 ?_
  refine cVIp1 (pc := 5) hX (c_X1_read (S := S) hA) (by decide) st_X5_104 ix_5 rfl rfl rfl (Nat.le_of_ble_eq_true rfl) dX5_layTurned_5 (fun r5 D5 h5 => ?_)
  obtain ⟨rfl, hK, hFm⟩ := h5
  have hF := hFm hf
  refine V_pop (pc := 8) hX rfl dX5_layTurned_8 ?_
  refine V_aload_n (pc := 9) (j := 0) hX 0 rfl rfl dX5_layTurned_9 ?_
  refine gf_X5_26 (pc := 10) hX dX5_layTurned_10 ?_
  refine V_aload_n (pc := 13) (j := 0) hX 0 rfl rfl dX5_layTurned_13 ?_
  refine gf_X5_19 (pc := 14) hX dX5_layTurned_14 ?_
  refine V_iload_n (pc := 17) (j := 2) hX 2 rfl rfl dX5_layTurned_17 ?_
  refine cVVp2 (pc := 18) hX (c_X1_layTurned (S := S) hF hw) (by decide) st_X5_225 ix_5 rfl rfl rfl (Nat.le_of_ble_eq_true rfl) dX5_layTurned_18 (fun D18 h18 => ?_)
  refine V_vret (pc := 21) hX hR dX5_layTurned_21 ?_
  exact ⟨rfl, LyQ_st hK.lk h18⟩
theorem c_X5_layGrown {E : Le} {l : Launch} {D : Dt} {z : Fin 11} {S : Cl} {n : Int} (hz : z ≠ D.2.2 0 2) (hA : AC D z S) (hn : -9 ≤ n ∧ n ≤ 9) : ConVp E l yX5_layGrown cX5_layGrown 4 none 3 [.ref (E.1 (0, 0)), .ref (E.1 (1, z)), .int (oI n)] D (LyQ D (growC n S)) := by
  refine Con_of (by decide) (Nat.le_of_ble_eq_true rfl) ?_
  intro X hX hR hl; subst hl
  have loop : ∀ (m : Nat) (kq : Nat) (D1 : Dt), kq ≤ n.natAbs → LK D D1 → AC D1 (D1.2.2 0 2) (gwC n (n.natAbs - kq) S) → kq < m → Vw E X 4 D1 24 [(0, some (.ref (E.1 (0, 0)))), (1, some (.ref (E.1 (1, z)))), (2, some (.int (oI n))), (3, some (.int (oI (kq : Int))))] [] := by
    intro m
    induction m with
    | zero => intro kq D1 g1 g2 g3 g4; omega
    | succ m ih =>
      intro kq D1 g1 g2 g3 g4
      refine V_iload_n (pc := 24) (j := 3) hX 3 rfl rfl dX5_layGrown_24 ?_
      refine Z_if_le (pc := 25) (tgt := 50) hX (by omega) dX5_layGrown_25 (by decide) (fun h25 => ?_) (fun h25 => ?_)
      · refine V_iload_n (pc := 50) (j := 2) hX 2 rfl rfl dX5_layGrown_50 ?_
        refine Z_if_ge (pc := 51) (tgt := 61) hX (by omega) dX5_layGrown_51 (by decide) (fun h51 => ?_) (fun h51 => ?_)
        · refine V_vret (pc := 61) hX hR dX5_layGrown_61 ?_
          have e : kq = 0 := by omega
          subst e
          rw [Nat.sub_zero, gw_end0 (by omega)] at g3
          exact ⟨rfl, LyQ_of g2 g3⟩
        · refine V_aload_n (pc := 54) (j := 0) hX 0 rfl rfl dX5_layGrown_54 ?_
          refine gf_X5_19 (pc := 55) hX dX5_layGrown_55 ?_
          refine cVVp0 (pc := 58) hX (c_X0_invert (A := gwC n (n.natAbs - kq) S) g3) (by decide) st_X5_97 (ix_1 _) rfl rfl rfl (Nat.le_of_ble_eq_true rfl) dX5_layGrown_58 (fun D58 h58 => ?_)
          refine V_vret (pc := 61) hX hR dX5_layGrown_61 ?_
          have e : kq = 0 := by omega
          subst e
          rw [Nat.sub_zero, gw_end1 (by omega)] at h58
          exact ⟨rfl, LyQ_st g2 h58⟩
      · refine V_aload_n (pc := 28) (j := 0) hX 0 rfl rfl dX5_layGrown_28 ?_
        refine gf_X5_19 (pc := 29) hX dX5_layGrown_29 ?_
        refine V_iload_n (pc := 32) (j := 2) hX 2 rfl rfl dX5_layGrown_32 ?_
        refine Z_if_ge (pc := 33) (tgt := 40) hX (by omega) dX5_layGrown_33 (by decide) (fun h33 => ?_) (fun h33 => ?_)
        · refine V_iconst (pc := 40) (z := 0) hX (oI 0) rfl dX5_layGrown_40 ?_
          refine V_bI false (by decide) ?_
          refine cVVp1 (pc := 41) hX (c_X0_spread (S := gwC n (n.natAbs - kq) S) g3) (by decide) st_X5_162 (ix_1 _) rfl rfl rfl (Nat.le_of_ble_eq_true rfl) dX5_layGrown_41 (fun D41 h41 => ?_)
          refine Z_iinc (pc := 44) hX (-1) rfl rfl dX5_layGrown_44 ?_
          refine V_goto (pc := 47) (off := (-23)) (tgt := 24) hX (by decide) dX5_layGrown_47 ?_
          refine V_cut [(0, some (.ref (E.1 (0, 0)))), (1, some (.ref (E.1 (1, z)))), (2, some (.int (oI n))), (3, some (.int (oI ((kq - 1 : Nat) : Int))))] ⟨rfl, rfl, rfl, congrArg (fun q => some (Value.int (oI q))) (by omega), trivial⟩ ?_
          have q := g2.step h41
          refine ih (kq - 1) _ (by omega) q.1 ?_ (by omega)
          rw [show n.natAbs - (kq - 1) = (n.natAbs - kq) + 1 by omega]
          exact AR.congr q.2 (gw_s0 (by omega) _ S)
        · refine V_iconst (pc := 36) (z := 1) hX (oI 1) rfl dX5_layGrown_36 ?_
          refine V_goto (pc := 37) (off := 4) (tgt := 41) hX (by decide) dX5_layGrown_37 ?_
          refine V_bI true (by decide) ?_
          refine cVVp1 (pc := 41) hX (c_X0_spread (S := gwC n (n.natAbs - kq) S) g3) (by decide) st_X5_162 (ix_1 _) rfl rfl rfl (Nat.le_of_ble_eq_true rfl) dX5_layGrown_41 (fun D41 h41 => ?_)
          refine Z_iinc (pc := 44) hX (-1) rfl rfl dX5_layGrown_44 ?_
          refine V_goto (pc := 47) (off := (-23)) (tgt := 24) hX (by decide) dX5_layGrown_47 ?_
          refine V_cut [(0, some (.ref (E.1 (0, 0)))), (1, some (.ref (E.1 (1, z)))), (2, some (.int (oI n))), (3, some (.int (oI ((kq - 1 : Nat) : Int))))] ⟨rfl, rfl, rfl, congrArg (fun q => some (Value.int (oI q))) (by omega), trivial⟩ ?_
          have q := g2.step h41
          refine ih (kq - 1) _ (by omega) q.1 ?_ (by omega)
          rw [show n.natAbs - (kq - 1) = (n.natAbs - kq) + 1 by omega]
          exact AR.congr q.2 (gw_s1 (by omega) _ S)
  refine V_aload_n (pc := 0) (j := 0) hX 0 rfl rfl dX5_layGrown_0 ?_
  refine gf_X5_19 (pc := 1) hX dX5_layGrown_1 ?_
  refine V_aload_n (pc := 4) (j := 1) hX 1 rfl rfl dX5_layGrown_4 ?_
  refine cVVp1 (pc := 5) hX (c_X0_copy (A := S) hz hA) (by decide) st_X5_93 (ix_1 _) rfl rfl rfl (Nat.le_of_ble_eq_true rfl) dX5_layGrown_5 (fun D5 h5 => ?_)
  have q5 := (LK.rf D).step h5
  refine V_iload_n (pc := 8) (j := 2) hX 2 rfl rfl dX5_layGrown_8 ?_
  refine Z_if_ge (pc := 9) (tgt := 19) hX (by omega) dX5_layGrown_9 (by decide) (fun h9 => ?_) (fun h9 => ?_)
  · refine V_iload_n (pc := 19) (j := 2) hX 2 rfl rfl dX5_layGrown_19 ?_
    refine Z_mabs (pc := 20) hX (by omega) (by decide) wm_X5_220 (Nat.le_of_ble_eq_true rfl) dX5_layGrown_20 ?_
    refine V_istore_n (pc := 23) (j := 3) hX 3 rfl (by decide) rfl dX5_layGrown_23 ?_
    refine V_cut [(0, some (.ref (E.1 (0, 0)))), (1, some (.ref (E.1 (1, z)))), (2, some (.int (oI n))), (3, some (.int (oI ((n.natAbs : Nat) : Int))))] ⟨rfl, rfl, rfl, congrArg (fun q => some (Value.int (oI q))) (by split <;> omega), trivial⟩ ?_
    refine loop (n.natAbs + 1) n.natAbs _ (Nat.le_refl _) q5.1 ?_ (by omega)
    rw [Nat.sub_self, gw_pos (by omega)]
    exact q5.2
  · refine V_aload_n (pc := 12) (j := 0) hX 0 rfl rfl dX5_layGrown_12 ?_
    refine gf_X5_19 (pc := 13) hX dX5_layGrown_13 ?_
    refine cVVp0 (pc := 16) hX (c_X0_invert (A := S) q5.2) (by decide) st_X5_97 (ix_1 _) rfl rfl rfl (Nat.le_of_ble_eq_true rfl) dX5_layGrown_16 (fun D16 h16 => ?_)
    refine V_iload_n (pc := 19) (j := 2) hX 2 rfl rfl dX5_layGrown_19 ?_
    refine Z_mabs (pc := 20) hX (by omega) (by decide) wm_X5_220 (Nat.le_of_ble_eq_true rfl) dX5_layGrown_20 ?_
    refine V_istore_n (pc := 23) (j := 3) hX 3 rfl (by decide) rfl dX5_layGrown_23 ?_
    refine V_cut [(0, some (.ref (E.1 (0, 0)))), (1, some (.ref (E.1 (1, z)))), (2, some (.int (oI n))), (3, some (.int (oI ((n.natAbs : Nat) : Int))))] ⟨rfl, rfl, rfl, congrArg (fun q => some (Value.int (oI q))) (by split <;> omega), trivial⟩ ?_
    have q16 := q5.1.step h16
    refine loop (n.natAbs + 1) n.natAbs _ (Nat.le_refl _) q16.1 ?_ (by omega)
    rw [Nat.sub_self, gw_neg (by omega)]
    exact q16.2
theorem c_X5_layDrawn {E : Le} {l : Launch} {D : Dt} {sd nn : Nat} (hs : sd ≤ 999999) (hn : nn ≤ 9) : ConVp E l yX5_layDrawn cX5_layDrawn 10 none 3 [.ref (E.1 (0, 0)), .int (oI (sd : Int)), .int (oI (nn : Int))] D (LyQ D (drawC sd nn)) := by
  refine Con_of (by decide) (Nat.le_of_ble_eq_true rfl) ?_
  intro X hX hR hl; subst hl
  have loop : ∀ (m : Nat) (k : Nat) (D1 : Dt), k ≤ nn → LK D D1 → AC D1 (D1.2.2 0 2) (drS k sd noC) → nn - k < m → Vw E X 10 D1 13 [(0, some (.ref (E.1 (0, 0)))), (1, some (.int (oI (sd : Int)))), (2, some (.int (oI (nn : Int)))), (3, some (.long (lN (lcR k sd)))), (5, some (.int (oI (k : Int))))] [] := by
    intro m
    induction m with
    | zero => intro k D1 g1 g2 g3 g4; omega
    | succ m ih =>
      intro k D1 g1 g2 g3 g4
      refine V_iload (pc := 13) hX rfl dX5_layDrawn_13 ?_
      refine V_iload_n (pc := 15) (j := 2) hX 2 rfl rfl dX5_layDrawn_15 ?_
      refine Z_icmp_ge (pc := 16) (tgt := 118) hX (by omega) (by omega) dX5_layDrawn_16 (by decide) (fun h16 => ?_) (fun h16 => ?_)
      · refine V_vret (pc := 118) hX hR dX5_layDrawn_118 ?_
        have e : k = nn := by omega
        subst e
        exact ⟨rfl, LyQ_of g2 g3⟩
      · refine V_lload_n (pc := 19) (j := 3) hX 3 rfl rfl dX5_layDrawn_19 ?_
        refine V_ldc2 (pc := 20) hX (1103515245) w_472 dX5_layDrawn_20 ?_
        refine V_lmul (pc := 23) hX dX5_layDrawn_23 ?_
        refine V_ldc2 (pc := 24) hX (12345) w_473 dX5_layDrawn_24 ?_
        refine V_ladd (pc := 27) hX dX5_layDrawn_27 ?_
        refine V_ldc2 (pc := 28) hX (2147483648) w_474 dX5_layDrawn_28 ?_
        refine V_lrem (pc := 31) hX (by decide) dX5_layDrawn_31 ?_
        refine V_topl (lN (lcN (lcR k sd))) (lc_step (rep_lt (by omega) k)) ?_
        have hr : lcR (k + 1) sd < 2147483648 := rep_lt (by omega) (k + 1)
        refine V_lstore_n (pc := 32) (j := 3) hX 3 rfl (by decide) rfl dX5_layDrawn_32 ?_
        refine V_lload_n (pc := 33) (j := 3) hX 3 rfl rfl dX5_layDrawn_33 ?_
        refine V_ldc2 (pc := 34) hX (65536) w_475 dX5_layDrawn_34 ?_
        refine V_ldiv (pc := 37) hX (by decide) dX5_layDrawn_37 ?_
        refine V_ldc2 (pc := 38) hX (40) w_476 dX5_layDrawn_38 ?_
        refine V_lrem (pc := 41) hX (by decide) dX5_layDrawn_41 ?_
        refine V_l2i (pc := 42) hX dX5_layDrawn_42 ?_
        refine V_oI (((lcR (k + 1) sd / 65536 % 40 : Nat)) : Int) (lc_div hr (by decide) (by decide) (by decide) (by decide)) ?_
        refine V_bipush (pc := 43) (z := 25) hX (oI 25) (by decide) dX5_layDrawn_43 ?_
        refine Z_isub (pc := 45) hX dX5_layDrawn_45 ?_
        refine V_istore (pc := 46) hX (by decide) rfl dX5_layDrawn_46 ?_
        refine V_lload_n (pc := 48) (j := 3) hX 3 rfl rfl dX5_layDrawn_48 ?_
        refine V_ldc2 (pc := 49) hX (4096) w_477 dX5_layDrawn_49 ?_
        refine V_ldiv (pc := 52) hX (by decide) dX5_layDrawn_52 ?_
        refine V_ldc2 (pc := 53) hX (40) w_476 dX5_layDrawn_53 ?_
        refine V_lrem (pc := 56) hX (by decide) dX5_layDrawn_56 ?_
        refine V_l2i (pc := 57) hX dX5_layDrawn_57 ?_
        refine V_oI (((lcR (k + 1) sd / 4096 % 40 : Nat)) : Int) (lc_div hr (by decide) (by decide) (by decide) (by decide)) ?_
        refine V_bipush (pc := 58) (z := 25) hX (oI 25) (by decide) dX5_layDrawn_58 ?_
        refine Z_isub (pc := 60) hX dX5_layDrawn_60 ?_
        refine V_istore (pc := 61) hX (by decide) rfl dX5_layDrawn_61 ?_
        refine V_lload_n (pc := 63) (j := 3) hX 3 rfl rfl dX5_layDrawn_63 ?_
        refine V_ldc2 (pc := 64) hX (1024) w_478 dX5_layDrawn_64 ?_
        refine V_ldiv (pc := 67) hX (by decide) dX5_layDrawn_67 ?_
        refine V_ldc2 (pc := 68) hX (12) w_479 dX5_layDrawn_68 ?_
        refine V_lrem (pc := 71) hX (by decide) dX5_layDrawn_71 ?_
        refine V_l2i (pc := 72) hX dX5_layDrawn_72 ?_
        refine V_oI (((lcR (k + 1) sd / 1024 % 12 : Nat)) : Int) (lc_div hr (by decide) (by decide) (by decide) (by decide)) ?_
        refine V_iconst (pc := 73) (z := 1) hX (oI 1) rfl dX5_layDrawn_73 ?_
        refine Z_iadd (pc := 74) hX dX5_layDrawn_74 ?_
        refine V_istore (pc := 75) hX (by decide) rfl dX5_layDrawn_75 ?_
        refine V_lload_n (pc := 77) (j := 3) hX 3 rfl rfl dX5_layDrawn_77 ?_
        refine V_ldc2 (pc := 78) hX (32) w_480 dX5_layDrawn_78 ?_
        refine V_ldiv (pc := 81) hX (by decide) dX5_layDrawn_81 ?_
        refine V_ldc2 (pc := 82) hX (12) w_479 dX5_layDrawn_82 ?_
        refine V_lrem (pc := 85) hX (by decide) dX5_layDrawn_85 ?_
        refine V_l2i (pc := 86) hX dX5_layDrawn_86 ?_
        refine V_oI (((lcR (k + 1) sd / 32 % 12 : Nat)) : Int) (lc_div hr (by decide) (by decide) (by decide) (by decide)) ?_
        refine V_iconst (pc := 87) (z := 1) hX (oI 1) rfl dX5_layDrawn_87 ?_
        refine Z_iadd (pc := 88) hX dX5_layDrawn_88 ?_
        refine V_istore (pc := 89) hX (by decide) rfl dX5_layDrawn_89 ?_
        refine V_aload_n (pc := 91) (j := 0) hX 0 rfl rfl dX5_layDrawn_91 ?_
        refine gf_X5_19 (pc := 92) hX dX5_layDrawn_92 ?_
        refine V_iload (pc := 95) hX rfl dX5_layDrawn_95 ?_
        refine V_iload (pc := 97) hX rfl dX5_layDrawn_97 ?_
        refine V_iload (pc := 99) hX rfl dX5_layDrawn_99 ?_
        refine V_iload (pc := 101) hX rfl dX5_layDrawn_101 ?_
        refine Z_iadd (pc := 103) hX dX5_layDrawn_103 ?_
        refine V_iload (pc := 104) hX rfl dX5_layDrawn_104 ?_
        refine V_iload (pc := 106) hX rfl dX5_layDrawn_106 ?_
        refine Z_iadd (pc := 108) hX dX5_layDrawn_108 ?_
        refine cVVp4 (pc := 109) hX (c_X0_fill (S := drS k sd noC) (by omega) (by omega) (by omega) (by omega) g3) (by decide) st_X5_211 (ix_1 _) rfl rfl rfl (Nat.le_of_ble_eq_true rfl) dX5_layDrawn_109 (fun D109 h109 => ?_)
        refine Z_iinc (pc := 112) hX 1 rfl rfl dX5_layDrawn_112 ?_
        refine V_goto (pc := 115) (off := (-102)) (tgt := 13) hX (by decide) dX5_layDrawn_115 ?_
        refine V_cut [(0, some (.ref (E.1 (0, 0)))), (1, some (.int (oI (sd : Int)))), (2, some (.int (oI (nn : Int)))), (3, some (.long (lN (lcR (k + 1) sd)))), (5, some (.int (oI ((k + 1 : Nat) : Int))))] ⟨rfl, rfl, rfl, rfl, rfl, trivial⟩ ?_
        have q := g2.step h109
        exact ih (k + 1) _ (by omega) q.1 (AR.congr q.2 (fun i _ j _ => dr_fill i j)) (by omega)
  refine V_aload_n (pc := 0) (j := 0) hX 0 rfl rfl dX5_layDrawn_0 ?_
  refine gf_X5_19 (pc := 1) hX dX5_layDrawn_1 ?_
  refine cVVp0 (pc := 4) hX (c_X0_empty) (by decide) st_X5_208 (ix_1 _) rfl rfl rfl (Nat.le_of_ble_eq_true rfl) dX5_layDrawn_4 (fun D4 h4 => ?_)
  have q4 := (LK.rf D).step h4
  refine V_iload_n (pc := 7) (j := 1) hX 1 rfl rfl dX5_layDrawn_7 ?_
  refine V_i2l (pc := 8) hX dX5_layDrawn_8 ?_
  refine V_topl (lN sd) (by rw [oI_nat]; exact nI_l (by omega)) ?_
  refine V_lstore_n (pc := 9) (j := 3) hX 3 rfl (by decide) rfl dX5_layDrawn_9 ?_
  refine V_iconst (pc := 10) (z := 0) hX (oI 0) rfl dX5_layDrawn_10 ?_
  refine V_istore (pc := 11) hX (by decide) rfl dX5_layDrawn_11 ?_
  refine V_cut [(0, some (.ref (E.1 (0, 0)))), (1, some (.int (oI (sd : Int)))), (2, some (.int (oI (nn : Int)))), (3, some (.long (lN (lcR 0 sd)))), (5, some (.int (oI ((0 : Nat) : Int))))] ⟨rfl, rfl, rfl, rfl, rfl, trivial⟩ ?_
  exact loop (nn + 1) 0 _ (by omega) q4.1 q4.2 (by omega)
