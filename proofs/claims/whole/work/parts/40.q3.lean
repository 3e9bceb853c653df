/-! THE CLASS: spread by one -/
def edL (b : Bool) : Int64 := if b then ALc else 0
theorem edL_tb (b : Bool) {k : Nat} (hk : k < 60) : tb (edL b) k = b := by
  cases b
  · exact tb_0 k
  · exact (tb_all k).trans (decide_eq_true hk)
theorem edL_60 (b : Bool) : b60 (edL b) := by
  cases b
  · exact b60_0
  · exact b60_ALc
abbrev sl (v : Int64) (k : Nat) : Int64 := v <<< ((oI (k : Int)).toInt64 &&& 63)
def swW (b : Bool) (w e : Int64) : Int64 := ((((w ||| sl w 1) ||| (edL b &&& 1)) ||| us w 1) ||| sl e 59) &&& ALc
def swE (b : Bool) (w e : Int64) : Int64 := ((((e ||| sl e 1) ||| us w 59) ||| us e 1) ||| sl (edL b &&& 1) 59) &&& ALc
theorem tb_sl (v : Int64) {k : Nat} (h : k < 64) (i : Nat) : tb (sl v k) i = (decide (i < 64) && decide (k ≤ i) && tb v (i - k)) := tb_shl v h i
theorem tb_us (v : Int64) {k : Nat} (h : k < 64) (i : Nat) : tb (us v k) i = tb v (k + i) := tb_ushr v h i
theorem swW_tb (b : Bool) {w e : Int64} (hw : b60 w) {k : Nat} (hk : k < 60) : tb (swW b w e) k = ((tb w k || (if k = 0 then b else tb w (k - 1))) || (if k = 59 then tb e 0 else tb w (k + 1))) := by
  have hb := edL_tb b hk
  rw [swW, tb_and, tb_or, tb_or, tb_or, tb_or, tb_sl w (by decide), tb_us w (by decide), tb_sl e (by decide), tb_and, tb_1, hb, show tb ALc k = true from (tb_all k).trans (decide_eq_true hk), decide_eq_true (by omega : k < 64)]
  by_cases h0 : k = 0
  · subst h0
    simp
  · by_cases h1 : k = 59
    · subst h1
      rw [hw (1 + 59) (by omega)]
      simp
    · have h2 : ¬ 59 ≤ k := by omega
      have h3 : 1 ≤ k := by omega
      simp [h0, h1, h2, h3, Nat.add_comm]
theorem swE_tb (b : Bool) {w e : Int64} (hw : b60 w) (he : b60 e) {k : Nat} (hk : k < 60) : tb (swE b w e) k = ((tb e k || (if k = 0 then tb w 59 else tb e (k - 1))) || (if k = 59 then b else tb e (k + 1))) := by
  rw [swE, tb_and, tb_or, tb_or, tb_or, tb_or, tb_sl e (by decide), tb_us w (by decide), tb_us e (by decide), tb_sl _ (by decide), tb_and, tb_1, show tb ALc k = true from (tb_all k).trans (decide_eq_true hk), decide_eq_true (by omega : k < 64)]
  by_cases h0 : k = 0
  · subst h0
    simp
  · rw [hw (59 + k) (by omega)]
    by_cases h1 : k = 59
    · subst h1
      rw [he (1 + 59) (by omega), edL_tb b (by omega)]
      simp
    · have h2 : ¬ 59 ≤ k := by omega
      have h3 : 1 ≤ k := by omega
      simp [h0, h1, h2, h3, Nat.add_comm]
def sdC (b : Bool) (S : Cl) : Cl := fun i j => (S i j || (if i = 0 then b else S (i - 1) j)) || (if i = 119 then b else S (i + 1) j)
theorem AC_sd {D D' : Dt} {z : Fin 11} {S : Cl} (b : Bool) (hA : AC D z S) (h2 : ∀ j, j < 120 → D'.2.1 2 z j = swW b (D.2.1 2 z j) (D.2.1 3 z j)) (h3 : ∀ j, j < 120 → D'.2.1 3 z j = swE b (D.2.1 2 z j) (D.2.1 3 z j)) : AC D' z (sdC b S) := by
  refine AC_mk (fun j hj => ?_) (fun j hj => ?_)
  · rw [h2 j hj]
    refine ⟨b60_all _, fun i hi => ?_⟩
    rw [swW_tb b (AC_60w hA hj) hi, AC_w hA hi hj, sdC]
    by_cases h0 : i = 0
    · subst h0
      rw [if_pos rfl, if_pos rfl, if_neg (by omega), if_neg (by omega), AC_w hA (by omega) hj]
    · rw [if_neg h0, if_neg h0, AC_w hA (by omega) hj]
      by_cases h1 : i = 59
      · subst h1
        rw [if_pos rfl, if_neg (by omega), AC_e hA (by omega) hj]
      · rw [if_neg h1, if_neg (by omega), AC_w hA (by omega) hj]
  · rw [h3 j hj]
    refine ⟨b60_all _, fun i hi => ?_⟩
    rw [swE_tb b (AC_60w hA hj) (AC_60e hA hj) hi, AC_e hA hi hj, sdC]
    by_cases h0 : i = 0
    · subst h0
      rw [if_pos rfl, if_neg (by omega), if_neg (by omega), if_neg (by omega), AC_w hA (by omega) hj, AC_e hA (by omega) hj]
    · rw [if_neg h0, if_neg (show ¬ 60 + i = 0 by omega), AC_e hA (by omega) hj, show 60 + (i - 1) = 60 + i - 1 by omega]
      by_cases h1 : i = 59
      · subst h1
        rw [if_pos rfl, if_pos (show 60 + 59 = 119 from rfl)]
      · rw [if_neg h1, if_neg (show ¬ 60 + i = 119 by omega), AC_e hA (by omega) hj]
        rfl
theorem c_X0_spreadSideways {E : Le} {l : Launch} {D : Dt} {z : Fin 11} {S : Cl} {b : Bool} (hA : AC D z S) : ConVp E l yX0_spreadSideways cX0_spreadSideways 12 none 1 [.ref (E.1 (1, z)), .long (edL b)] D (fun D' => Az z D D' ∧ AC D' z (sdC b S)) := by
  refine Con_of (by decide) (Nat.le_of_ble_eq_true rfl) ?_
  intro X hX hR hl; subst hl
  have loop : ∀ (m : Nat) (k : Nat) (D1 : Dt), k ≤ 120 → Az z D D1 → (∀ j, (j < k → D1.2.1 2 z j = swW b (D.2.1 2 z j) (D.2.1 3 z j) ∧ D1.2.1 3 z j = swE b (D.2.1 2 z j) (D.2.1 3 z j)) ∧ (k ≤ j → D1.2.1 2 z j = D.2.1 2 z j) ∧ (k ≤ j → D1.2.1 3 z j = D.2.1 3 z j)) → 120 - k < m → Vw E X 12 D1 13 [(0, some (.ref (E.1 (1, z)))), (3, some (.long (edL b &&& 1))), (5, some (.long (sl (edL b &&& 1) 59))), (7, some (.int (oI (k : Int))))] [] := by
    intro m
    induction m with
    | zero => intro k D1 g1 g2 g3 g4; omega
    | succ m ih =>
      intro k D1 g1 g2 g3 g4
      refine V_iload (pc := 13) hX rfl dX0_spreadSideways_13 ?_
      refine V_bipush (pc := 15) (z := 120) hX (oI 120) (by decide) dX0_spreadSideways_15 ?_
      refine Z_icmp_ge (pc := 17) (tgt := 107) hX (by omega) (by omega) dX0_spreadSideways_17 (by decide) (fun h17 => ?_) (fun h17 => ?_)
      · refine V_vret (pc := 107) hX hR dX0_spreadSideways_107 ?_
        have e : k = 120 := by omega
        subst e
        exact ⟨rfl, g2, AC_sd b hA (fun j hj => ((g3 j).1 hj).1) (fun j hj => ((g3 j).1 hj).2)⟩
      · refine V_aload_n (pc := 20) (j := 0) hX 0 rfl rfl dX0_spreadSideways_20 ?_
        refine gf_X0_9 (pc := 21) hX dX0_spreadSideways_21 ?_
        refine V_iload (pc := 24) hX rfl dX0_spreadSideways_24 ?_
        refine zl_2 (pc := 26) hX (k) (by omega) (by omega) dX0_spreadSideways_26 ?_
        refine V_lstore (pc := 27) hX (by decide) rfl dX0_spreadSideways_27 ?_
        refine V_aload_n (pc := 29) (j := 0) hX 0 rfl rfl dX0_spreadSideways_29 ?_
        refine gf_X0_15 (pc := 30) hX dX0_spreadSideways_30 ?_
        refine V_iload (pc := 33) hX rfl dX0_spreadSideways_33 ?_
        refine zl_3 (pc := 35) hX (k) (by omega) (by omega) dX0_spreadSideways_35 ?_
        refine V_lstore (pc := 36) hX (by decide) rfl dX0_spreadSideways_36 ?_
        refine V_aload_n (pc := 38) (j := 0) hX 0 rfl rfl dX0_spreadSideways_38 ?_
        refine gf_X0_9 (pc := 39) hX dX0_spreadSideways_39 ?_
        refine V_iload (pc := 42) hX rfl dX0_spreadSideways_42 ?_
        refine V_lload (pc := 44) hX rfl dX0_spreadSideways_44 ?_
        refine V_lload (pc := 46) hX rfl dX0_spreadSideways_46 ?_
        refine V_iconst (pc := 48) (z := 1) hX (oI 1) rfl dX0_spreadSideways_48 ?_
        refine V_lshl (pc := 49) hX dX0_spreadSideways_49 ?_
        refine V_lor (pc := 50) hX dX0_spreadSideways_50 ?_
        refine V_lload_n (pc := 51) (j := 3) hX 3 rfl rfl dX0_spreadSideways_51 ?_
        refine V_lor (pc := 52) hX dX0_spreadSideways_52 ?_
        refine V_lload (pc := 53) hX rfl dX0_spreadSideways_53 ?_
        refine V_iconst (pc := 55) (z := 1) hX (oI 1) rfl dX0_spreadSideways_55 ?_
        refine V_lushr (pc := 56) hX dX0_spreadSideways_56 ?_
        refine V_lor (pc := 57) hX dX0_spreadSideways_57 ?_
        refine V_lload (pc := 58) hX rfl dX0_spreadSideways_58 ?_
        refine V_bipush (pc := 60) (z := 59) hX (oI 59) (by decide) dX0_spreadSideways_60 ?_
        refine V_lshl (pc := 62) hX dX0_spreadSideways_62 ?_
        refine V_lor (pc := 63) hX dX0_spreadSideways_63 ?_
        refine V_ldc2 (pc := 64) hX (1152921504606846975) w_279 dX0_spreadSideways_64 ?_
        refine V_land (pc := 67) hX dX0_spreadSideways_67 ?_
        refine zs_2 (pc := 68) hX (k) (by omega) (by omega) dX0_spreadSideways_68 ?_
        refine V_aload_n (pc := 69) (j := 0) hX 0 rfl rfl dX0_spreadSideways_69 ?_
        refine gf_X0_15 (pc := 70) hX dX0_spreadSideways_70 ?_
        refine V_iload (pc := 73) hX rfl dX0_spreadSideways_73 ?_
        refine V_lload (pc := 75) hX rfl dX0_spreadSideways_75 ?_
        refine V_lload (pc := 77) hX rfl dX0_spreadSideways_77 ?_
        refine V_iconst (pc := 79) (z := 1) hX (oI 1) rfl dX0_spreadSideways_79 ?_
        refine V_lshl (pc := 80) hX dX0_spreadSideways_80 ?_
        refine V_lor (pc := 81) hX dX0_spreadSideways_81 ?_
        refine V_lload (pc := 82) hX rfl dX0_spreadSideways_82 ?_
        refine V_bipush (pc := 84) (z := 59) hX (oI 59) (by decide) dX0_spreadSideways_84 ?_
        refine V_lushr (pc := 86) hX dX0_spreadSideways_86 ?_
        refine V_lor (pc := 87) hX dX0_spreadSideways_87 ?_
        refine V_lload (pc := 88) hX rfl dX0_spreadSideways_88 ?_
        refine V_iconst (pc := 90) (z := 1) hX (oI 1) rfl dX0_spreadSideways_90 ?_
        refine V_lushr (pc := 91) hX dX0_spreadSideways_91 ?_
        refine V_lor (pc := 92) hX dX0_spreadSideways_92 ?_
        refine V_lload (pc := 93) hX rfl dX0_spreadSideways_93 ?_
        refine V_lor (pc := 95) hX dX0_spreadSideways_95 ?_
        refine V_ldc2 (pc := 96) hX (1152921504606846975) w_279 dX0_spreadSideways_96 ?_
        refine V_land (pc := 99) hX dX0_spreadSideways_99 ?_
        refine zs_3 (pc := 100) hX (k) (by omega) (by omega) dX0_spreadSideways_100 ?_
        refine Z_iinc (pc := 101) hX 1 rfl rfl dX0_spreadSideways_101 ?_
        refine V_goto (pc := 104) (off := (-91)) (tgt := 13) hX (by decide) dX0_spreadSideways_104 ?_
        refine V_cut [(0, some (.ref (E.1 (1, z)))), (3, some (.long (edL b &&& 1))), (5, some (.long (sl (edL b &&& 1) 59))), (7, some (.int (oI ((k + 1 : Nat) : Int))))] ⟨rfl, rfl, rfl, rfl, trivial⟩ ?_
        refine ih (k + 1) _ (by omega) ((g2.tr (Az_2 z _ _)).tr (Az_3 z _ _)) (fun j => ?_) (by omega)
        rw [lU_get, lU_ne _ _ (by simp), lU_get, lU_ne _ _ (by simp), updL_at, updL_at]
        by_cases q : j = k
        · subst q
          rw [if_pos rfl, if_pos rfl, (g3 j).2.1 (by omega), (g3 j).2.2 (by omega)]
          exact ⟨fun _ => ⟨rfl, rfl⟩, fun h => absurd h (by omega), fun h => absurd h (by omega)⟩
        · rw [if_neg q, if_neg q]
          exact ⟨fun h => (g3 j).1 (by omega), fun h => (g3 j).2.1 (by omega), fun h => (g3 j).2.2 (by omega)⟩
  refine V_lload_n (pc := 0) (j := 1) hX 1 rfl rfl dX0_spreadSideways_0 ?_
  refine V_lconst (pc := 1) (z := 1) hX 1 (by decide) dX0_spreadSideways_1 ?_
  refine V_land (pc := 2) hX dX0_spreadSideways_2 ?_
  refine V_lstore_n (pc := 3) (j := 3) hX 3 rfl (by decide) rfl dX0_spreadSideways_3 ?_
  refine V_lload_n (pc := 4) (j := 3) hX 3 rfl rfl dX0_spreadSideways_4 ?_
  refine V_bipush (pc := 5) (z := 59) hX (oI 59) (by decide) dX0_spreadSideways_5 ?_
  refine V_lshl (pc := 7) hX dX0_spreadSideways_7 ?_
  refine V_lstore (pc := 8) hX (by decide) rfl dX0_spreadSideways_8 ?_
  refine V_iconst (pc := 10) (z := 0) hX (oI 0) rfl dX0_spreadSideways_10 ?_
  refine V_istore (pc := 11) hX (by decide) rfl dX0_spreadSideways_11 ?_
  refine V_cut [(0, some (.ref (E.1 (1, z)))), (3, some (.long (edL b &&& 1))), (5, some (.long (sl (edL b &&& 1) 59))), (7, some (.int (oI ((0 : Nat) : Int))))] ⟨rfl, rfl, rfl, rfl, trivial⟩ ?_
  exact loop 121 0 D (by omega) (Az.rf z D) (fun j => ⟨fun hj => absurd hj (Nat.not_lt_zero j), fun _ => rfl, fun _ => rfl⟩) (by omega)
def abV (e : Int64) (f : Nat → Int64) : Nat → Int64
  | 0 => e
  | k + 1 => f k
def udL (e : Int64) (f : Nat → Int64) (j : Nat) : Int64 := (abV e f j ||| f j) ||| (if j + 1 < 120 then f (j + 1) else e)
theorem c_X0_ud2 {E : Le} {l : Launch} {D : Dt} {z : Fin 11} {u : Int64} : ConV E l yX0_spreadUpAndDown cX0_spreadUpAndDown 10 none 1 [.ref (E.1 (2, z)), .long u] D (lU D 2 z (fun j => if j < 120 then udL u (D.2.1 2 z) j else D.2.1 2 z j)) := by
  refine Con_of (by decide) (Nat.le_of_ble_eq_true rfl) ?_
  intro X hX hR hl; subst hl
  have loop : ∀ (m : Nat) (k : Nat) (D1 : Dt), k ≤ 120 → D1 = lU D 2 z (fun j => if j < k then udL u (D.2.1 2 z) j else D.2.1 2 z j) → 120 - k < m → Vw E X 10 D1 5 [(0, some (.ref (E.1 (2, z)))), (1, some (.long u)), (3, some (.long (abV u (D.2.1 2 z) k))), (5, some (.int (oI (k : Int))))] [] := by
    intro m
    induction m with
    | zero => intro k D1 g1 g2 g3; omega
    | succ m ih =>
      intro k D1 g1 g2 g3
      refine V_iload (pc := 5) hX rfl dX0_spreadUpAndDown_5 ?_
      refine V_bipush (pc := 7) (z := 120) hX (oI 120) (by decide) dX0_spreadUpAndDown_7 ?_
      refine Z_icmp_ge (pc := 9) (tgt := 59) hX (by omega) (by omega) dX0_spreadUpAndDown_9 (by decide) (fun h9 => ?_) (fun h9 => ?_)
      · refine V_vret (pc := 59) hX hR dX0_spreadUpAndDown_59 ?_
        have e : k = 120 := by omega
        subst e
        exact ⟨rfl, g2⟩
      · refine V_aload_n (pc := 12) (j := 0) hX 0 rfl rfl dX0_spreadUpAndDown_12 ?_
        refine V_iload (pc := 13) hX rfl dX0_spreadUpAndDown_13 ?_
        refine zl_2 (pc := 15) hX (k) (by omega) (by omega) dX0_spreadUpAndDown_15 ?_
        refine V_lstore (pc := 16) hX (by decide) rfl dX0_spreadUpAndDown_16 ?_
        refine V_iload (pc := 18) hX rfl dX0_spreadUpAndDown_18 ?_
        refine V_iconst (pc := 20) (z := 1) hX (oI 1) rfl dX0_spreadUpAndDown_20 ?_
        refine Z_iadd (pc := 21) hX dX0_spreadUpAndDown_21 ?_
        refine V_bipush (pc := 22) (z := 120) hX (oI 120) (by decide) dX0_spreadUpAndDown_22 ?_
        refine Z_icmp_ge (pc := 24) (tgt := 36) hX (by omega) (by omega) dX0_spreadUpAndDown_24 (by decide) (fun h24 => ?_) (fun h24 => ?_)
        · refine V_lload_n (pc := 36) (j := 1) hX 1 rfl rfl dX0_spreadUpAndDown_36 ?_
          refine V_lstore (pc := 37) hX (by decide) rfl dX0_spreadUpAndDown_37 ?_
          refine V_aload_n (pc := 39) (j := 0) hX 0 rfl rfl dX0_spreadUpAndDown_39 ?_
          refine V_iload (pc := 40) hX rfl dX0_spreadUpAndDown_40 ?_
          refine V_lload_n (pc := 42) (j := 3) hX 3 rfl rfl dX0_spreadUpAndDown_42 ?_
          refine V_lload (pc := 43) hX rfl dX0_spreadUpAndDown_43 ?_
          refine V_lor (pc := 45) hX dX0_spreadUpAndDown_45 ?_
          refine V_lload (pc := 46) hX rfl dX0_spreadUpAndDown_46 ?_
          refine V_lor (pc := 48) hX dX0_spreadUpAndDown_48 ?_
          refine zs_2 (pc := 49) hX (k) (by omega) (by omega) dX0_spreadUpAndDown_49 ?_
          refine V_lload (pc := 50) hX rfl dX0_spreadUpAndDown_50 ?_
          refine V_lstore_n (pc := 52) (j := 3) hX 3 rfl (by decide) rfl dX0_spreadUpAndDown_52 ?_
          refine Z_iinc (pc := 53) hX 1 rfl rfl dX0_spreadUpAndDown_53 ?_
          refine V_goto (pc := 56) (off := (-51)) (tgt := 5) hX (by decide) dX0_spreadUpAndDown_56 ?_
          refine V_cut [(0, some (.ref (E.1 (2, z)))), (1, some (.long u)), (3, some (.long (abV u (D.2.1 2 z) (k + 1)))), (5, some (.int (oI ((k + 1 : Nat) : Int))))] ⟨rfl, rfl, congrArg (fun q => some (Value.long q)) (by rw [g2, lU_get, if_neg (by omega)]; rfl), rfl, trivial⟩ ?_
          refine ih (k + 1) _ (by omega) ?_ (by omega)
          rw [show D1.2.1 2 z k = D.2.1 2 z k by rw [g2, lU_get, if_neg (by omega)], show D1.2.1 2 z = (fun j => if j < k then udL u (D.2.1 2 z) j else D.2.1 2 z j) by rw [g2, lU_get], g2, lU_lU]
          congr 1
          funext j
          rw [updL_at]
          by_cases q : j = k
          · subst q; rw [if_pos rfl, if_pos (by omega), udL, if_neg (by omega)]
          · rw [if_neg q]
            by_cases q2 : j < k
            · rw [if_pos q2, if_pos (by omega)]
            · rw [if_neg q2, if_neg (by omega)]
        · refine V_aload_n (pc := 27) (j := 0) hX 0 rfl rfl dX0_spreadUpAndDown_27 ?_
          refine V_iload (pc := 28) hX rfl dX0_spreadUpAndDown_28 ?_
          refine V_iconst (pc := 30) (z := 1) hX (oI 1) rfl dX0_spreadUpAndDown_30 ?_
          refine Z_iadd (pc := 31) hX dX0_spreadUpAndDown_31 ?_
          refine zl_2 (pc := 32) hX (k + 1) (by omega) (by omega) dX0_spreadUpAndDown_32 ?_
          refine V_goto (pc := 33) (off := 4) (tgt := 37) hX (by decide) dX0_spreadUpAndDown_33 ?_
          refine V_lstore (pc := 37) hX (by decide) rfl dX0_spreadUpAndDown_37 ?_
          refine V_aload_n (pc := 39) (j := 0) hX 0 rfl rfl dX0_spreadUpAndDown_39 ?_
          refine V_iload (pc := 40) hX rfl dX0_spreadUpAndDown_40 ?_
          refine V_lload_n (pc := 42) (j := 3) hX 3 rfl rfl dX0_spreadUpAndDown_42 ?_
          refine V_lload (pc := 43) hX rfl dX0_spreadUpAndDown_43 ?_
          refine V_lor (pc := 45) hX dX0_spreadUpAndDown_45 ?_
          refine V_lload (pc := 46) hX rfl dX0_spreadUpAndDown_46 ?_
          refine V_lor (pc := 48) hX dX0_spreadUpAndDown_48 ?_
          refine zs_2 (pc := 49) hX (k) (by omega) (by omega) dX0_spreadUpAndDown_49 ?_
          refine V_lload (pc := 50) hX rfl dX0_spreadUpAndDown_50 ?_
          refine V_lstore_n (pc := 52) (j := 3) hX 3 rfl (by decide) rfl dX0_spreadUpAndDown_52 ?_
          refine Z_iinc (pc := 53) hX 1 rfl rfl dX0_spreadUpAndDown_53 ?_
          refine V_goto (pc := 56) (off := (-51)) (tgt := 5) hX (by decide) dX0_spreadUpAndDown_56 ?_
          refine V_cut [(0, some (.ref (E.1 (2, z)))), (1, some (.long u)), (3, some (.long (abV u (D.2.1 2 z) (k + 1)))), (5, some (.int (oI ((k + 1 : Nat) : Int))))] ⟨rfl, rfl, congrArg (fun q => some (Value.long q)) (by rw [g2, lU_get, if_neg (by omega)]; rfl), rfl, trivial⟩ ?_
          refine ih (k + 1) _ (by omega) ?_ (by omega)
          rw [show D1.2.1 2 z k = D.2.1 2 z k by rw [g2, lU_get, if_neg (by omega)], show D1.2.1 2 z (k + 1) = D.2.1 2 z (k + 1) by rw [g2, lU_get, if_neg (by omega)], show D1.2.1 2 z = (fun j => if j < k then udL u (D.2.1 2 z) j else D.2.1 2 z j) by rw [g2, lU_get], g2, lU_lU]
          congr 1
          funext j
          rw [updL_at]
          by_cases q : j = k
          · subst q; rw [if_pos rfl, if_pos (by omega), udL, if_pos (by omega)]
          · rw [if_neg q]
            by_cases q2 : j < k
            · rw [if_pos q2, if_pos (by omega)]
            · rw [if_neg q2, if_neg (by omega)]
  refine V_lload_n (pc := 0) (j := 1) hX 1 rfl rfl dX0_spreadUpAndDown_0 ?_
  refine V_lstore_n (pc := 1) (j := 3) hX 3 rfl (by decide) rfl dX0_spreadUpAndDown_1 ?_
  refine V_iconst (pc := 2) (z := 0) hX (oI 0) rfl dX0_spreadUpAndDown_2 ?_
  refine V_istore (pc := 3) hX (by decide) rfl dX0_spreadUpAndDown_3 ?_
  refine V_cut [(0, some (.ref (E.1 (2, z)))), (1, some (.long u)), (3, some (.long (abV u (D.2.1 2 z) 0))), (5, some (.int (oI ((0 : Nat) : Int))))] ⟨rfl, rfl, rfl, rfl, trivial⟩ ?_
  exact loop 121 0 D (by omega) (by simp only [Nat.not_lt_zero, if_false]; rw [lU_self]) (by omega)
theorem c_X0_ud3 {E : Le} {l : Launch} {D : Dt} {z : Fin 11} {u : Int64} : ConV E l yX0_spreadUpAndDown cX0_spreadUpAndDown 10 none 1 [.ref (E.1 (3, z)), .long u] D (lU D 3 z (fun j => if j < 120 then udL u (D.2.1 3 z) j else D.2.1 3 z j)) := by
  refine Con_of (by decide) (Nat.le_of_ble_eq_true rfl) ?_
  intro X hX hR hl; subst hl
  have loop : ∀ (m : Nat) (k : Nat) (D1 : Dt), k ≤ 120 → D1 = lU D 3 z (fun j => if j < k then udL u (D.2.1 3 z) j else D.2.1 3 z j) → 120 - k < m → Vw E X 10 D1 5 [(0, some (.ref (E.1 (3, z)))), (1, some (.long u)), (3, some (.long (abV u (D.2.1 3 z) k))), (5, some (.int (oI (k : Int))))] [] := by
    intro m
    induction m with
    | zero => intro k D1 g1 g2 g3; omega
    | succ m ih =>
      intro k D1 g1 g2 g3
      refine V_iload (pc := 5) hX rfl dX0_spreadUpAndDown_5 ?_
      refine V_bipush (pc := 7) (z := 120) hX (oI 120) (by decide) dX0_spreadUpAndDown_7 ?_
      refine Z_icmp_ge (pc := 9) (tgt := 59) hX (by omega) (by omega) dX0_spreadUpAndDown_9 (by decide) (fun h9 => ?_) (fun h9 => ?_)
      · refine V_vret (pc := 59) hX hR dX0_spreadUpAndDown_59 ?_
        have e : k = 120 := by omega
        subst e
        exact ⟨rfl, g2⟩
      · refine V_aload_n (pc := 12) (j := 0) hX 0 rfl rfl dX0_spreadUpAndDown_12 ?_
        refine V_iload (pc := 13) hX rfl dX0_spreadUpAndDown_13 ?_
        refine zl_3 (pc := 15) hX (k) (by omega) (by omega) dX0_spreadUpAndDown_15 ?_
        refine V_lstore (pc := 16) hX (by decide) rfl dX0_spreadUpAndDown_16 ?_
        refine V_iload (pc := 18) hX rfl dX0_spreadUpAndDown_18 ?_
        refine V_iconst (pc := 20) (z := 1) hX (oI 1) rfl dX0_spreadUpAndDown_20 ?_
        refine Z_iadd (pc := 21) hX dX0_spreadUpAndDown_21 ?_
        refine V_bipush (pc := 22) (z := 120) hX (oI 120) (by decide) dX0_spreadUpAndDown_22 ?_
        refine Z_icmp_ge (pc := 24) (tgt := 36) hX (by omega) (by omega) dX0_spreadUpAndDown_24 (by decide) (fun h24 => ?_) (fun h24 => ?_)
        · refine V_lload_n (pc := 36) (j := 1) hX 1 rfl rfl dX0_spreadUpAndDown_36 ?_
          refine V_lstore (pc := 37) hX (by decide) rfl dX0_spreadUpAndDown_37 ?_
          refine V_aload_n (pc := 39) (j := 0) hX 0 rfl rfl dX0_spreadUpAndDown_39 ?_
          refine V_iload (pc := 40) hX rfl dX0_spreadUpAndDown_40 ?_
          refine V_lload_n (pc := 42) (j := 3) hX 3 rfl rfl dX0_spreadUpAndDown_42 ?_
          refine V_lload (pc := 43) hX rfl dX0_spreadUpAndDown_43 ?_
          refine V_lor (pc := 45) hX dX0_spreadUpAndDown_45 ?_
          refine V_lload (pc := 46) hX rfl dX0_spreadUpAndDown_46 ?_
          refine V_lor (pc := 48) hX dX0_spreadUpAndDown_48 ?_
          refine zs_3 (pc := 49) hX (k) (by omega) (by omega) dX0_spreadUpAndDown_49 ?_
          refine V_lload (pc := 50) hX rfl dX0_spreadUpAndDown_50 ?_
          refine V_lstore_n (pc := 52) (j := 3) hX 3 rfl (by decide) rfl dX0_spreadUpAndDown_52 ?_
          refine Z_iinc (pc := 53) hX 1 rfl rfl dX0_spreadUpAndDown_53 ?_
          refine V_goto (pc := 56) (off := (-51)) (tgt := 5) hX (by decide) dX0_spreadUpAndDown_56 ?_
          refine V_cut [(0, some (.ref (E.1 (3, z)))), (1, some (.long u)), (3, some (.long (abV u (D.2.1 3 z) (k + 1)))), (5, some (.int (oI ((k + 1 : Nat) : Int))))] ⟨rfl, rfl, congrArg (fun q => some (Value.long q)) (by rw [g2, lU_get, if_neg (by omega)]; rfl), rfl, trivial⟩ ?_
          refine ih (k + 1) _ (by omega) ?_ (by omega)
          rw [show D1.2.1 3 z k = D.2.1 3 z k by rw [g2, lU_get, if_neg (by omega)], show D1.2.1 3 z = (fun j => if j < k then udL u (D.2.1 3 z) j else D.2.1 3 z j) by rw [g2, lU_get], g2, lU_lU]
          congr 1
          funext j
          rw [updL_at]
          by_cases q : j = k
          · subst q; rw [if_pos rfl, if_pos (by omega), udL, if_neg (by omega)]
          · rw [if_neg q]
            by_cases q2 : j < k
            · rw [if_pos q2, if_pos (by omega)]
            · rw [if_neg q2, if_neg (by omega)]
        · refine V_aload_n (pc := 27) (j := 0) hX 0 rfl rfl dX0_spreadUpAndDown_27 ?_
          refine V_iload (pc := 28) hX rfl dX0_spreadUpAndDown_28 ?_
          refine V_iconst (pc := 30) (z := 1) hX (oI 1) rfl dX0_spreadUpAndDown_30 ?_
          refine Z_iadd (pc := 31) hX dX0_spreadUpAndDown_31 ?_
          refine zl_3 (pc := 32) hX (k + 1) (by omega) (by omega) dX0_spreadUpAndDown_32 ?_
          refine V_goto (pc := 33) (off := 4) (tgt := 37) hX (by decide) dX0_spreadUpAndDown_33 ?_
          refine V_lstore (pc := 37) hX (by decide) rfl dX0_spreadUpAndDown_37 ?_
          refine V_aload_n (pc := 39) (j := 0) hX 0 rfl rfl dX0_spreadUpAndDown_39 ?_
          refine V_iload (pc := 40) hX rfl dX0_spreadUpAndDown_40 ?_
          refine V_lload_n (pc := 42) (j := 3) hX 3 rfl rfl dX0_spreadUpAndDown_42 ?_
          refine V_lload (pc := 43) hX rfl dX0_spreadUpAndDown_43 ?_
          refine V_lor (pc := 45) hX dX0_spreadUpAndDown_45 ?_
          refine V_lload (pc := 46) hX rfl dX0_spreadUpAndDown_46 ?_
          refine V_lor (pc := 48) hX dX0_spreadUpAndDown_48 ?_
          refine zs_3 (pc := 49) hX (k) (by omega) (by omega) dX0_spreadUpAndDown_49 ?_
          refine V_lload (pc := 50) hX rfl dX0_spreadUpAndDown_50 ?_
          refine V_lstore_n (pc := 52) (j := 3) hX 3 rfl (by decide) rfl dX0_spreadUpAndDown_52 ?_
          refine Z_iinc (pc := 53) hX 1 rfl rfl dX0_spreadUpAndDown_53 ?_
          refine V_goto (pc := 56) (off := (-51)) (tgt := 5) hX (by decide) dX0_spreadUpAndDown_56 ?_
          refine V_cut [(0, some (.ref (E.1 (3, z)))), (1, some (.long u)), (3, some (.long (abV u (D.2.1 3 z) (k + 1)))), (5, some (.int (oI ((k + 1 : Nat) : Int))))] ⟨rfl, rfl, congrArg (fun q => some (Value.long q)) (by rw [g2, lU_get, if_neg (by omega)]; rfl), rfl, trivial⟩ ?_
          refine ih (k + 1) _ (by omega) ?_ (by omega)
          rw [show D1.2.1 3 z k = D.2.1 3 z k by rw [g2, lU_get, if_neg (by omega)], show D1.2.1 3 z (k + 1) = D.2.1 3 z (k + 1) by rw [g2, lU_get, if_neg (by omega)], show D1.2.1 3 z = (fun j => if j < k then udL u (D.2.1 3 z) j else D.2.1 3 z j) by rw [g2, lU_get], g2, lU_lU]
          congr 1
          funext j
          rw [updL_at]
          by_cases q : j = k
          · subst q; rw [if_pos rfl, if_pos (by omega), udL, if_pos (by omega)]
          · rw [if_neg q]
            by_cases q2 : j < k
            · rw [if_pos q2, if_pos (by omega)]
            · rw [if_neg q2, if_neg (by omega)]
  refine V_lload_n (pc := 0) (j := 1) hX 1 rfl rfl dX0_spreadUpAndDown_0 ?_
  refine V_lstore_n (pc := 1) (j := 3) hX 3 rfl (by decide) rfl dX0_spreadUpAndDown_1 ?_
  refine V_iconst (pc := 2) (z := 0) hX (oI 0) rfl dX0_spreadUpAndDown_2 ?_
  refine V_istore (pc := 3) hX (by decide) rfl dX0_spreadUpAndDown_3 ?_
  refine V_cut [(0, some (.ref (E.1 (3, z)))), (1, some (.long u)), (3, some (.long (abV u (D.2.1 3 z) 0))), (5, some (.int (oI ((0 : Nat) : Int))))] ⟨rfl, rfl, rfl, rfl, trivial⟩ ?_
  exact loop 121 0 D (by omega) (by simp only [Nat.not_lt_zero, if_false]; rw [lU_self]) (by omega)
def udC (b : Bool) (S : Cl) : Cl := fun i j => ((if j = 0 then b else S i (j - 1)) || S i j) || (if j + 1 < 120 then S i (j + 1) else b)
theorem udL_tb {b : Bool} {f : Nat → Int64} {g : Nat → Bool} {i j : Nat} (hi : i < 60) (hj : j < 120) (h : ∀ j, j < 120 → tb (f j) i = g j) : tb (udL (edL b) f j) i = (((if j = 0 then b else g (j - 1)) || g j) || (if j + 1 < 120 then g (j + 1) else b)) := by
  rw [udL, tb_or, tb_or, h j hj]
  congr 1
  · congr 1
    cases j with
    | zero => rw [if_pos rfl]; exact edL_tb b hi
    | succ m => rw [if_neg (by omega)]; exact h m (by omega)
  · by_cases q : j + 1 < 120
    · rw [if_pos q, if_pos q]; exact h _ q
    · rw [if_neg q, if_neg q]; exact edL_tb b hi
theorem udL_60 {b : Bool} {f : Nat → Int64} {j : Nat} (hj : j < 120) (h : ∀ j, j < 120 → b60 (f j)) : b60 (udL (edL b) f j) := by
  refine b60_or (b60_or ?_ (h j hj)) ?_
  · cases j with
    | zero => exact edL_60 b
    | succ m => exact h m (by omega)
  · by_cases q : j + 1 < 120
    · rw [if_pos q]; exact h _ q
    · rw [if_neg q]; exact edL_60 b
theorem AC_ud {D D' : Dt} {z : Fin 11} {S : Cl} (b : Bool) (hA : AC D z S) (h2 : ∀ j, j < 120 → D'.2.1 2 z j = udL (edL b) (D.2.1 2 z) j) (h3 : ∀ j, j < 120 → D'.2.1 3 z j = udL (edL b) (D.2.1 3 z) j) : AC D' z (udC b S) := by
  refine AC_mk (fun j hj => ?_) (fun j hj => ?_)
  · rw [h2 j hj]
    exact ⟨udL_60 hj (fun j hj => AC_60w hA hj), fun i hi => udL_tb (g := fun j => S i j) hi hj (fun j hj => AC_w hA hi hj)⟩
  · rw [h3 j hj]
    exact ⟨udL_60 hj (fun j hj => AC_60e hA hj), fun i hi => udL_tb (g := fun j => S (60 + i) j) hi hj (fun j hj => AC_e hA hi hj)⟩
def spC (b : Bool) (S : Cl) : Cl := udC b (sdC b S)
theorem spC_congr {b : Bool} {S T : Cl} (h : ∀ i, i < 120 → ∀ j, j < 120 → S i j = T i j) : ∀ i, i < 120 → ∀ j, j < 120 → spC b S i j = spC b T i j := by
  have hs : ∀ i, i < 120 → ∀ j, j < 120 → sdC b S i j = sdC b T i j := fun i hi j hj => by
    unfold sdC
    rw [h i hi j hj]
    congr 1
    · congr 1
      by_cases q : i = 0
      · rw [if_pos q, if_pos q]
      · rw [if_neg q, if_neg q, h _ (by omega) j hj]
    · by_cases q : i = 119
      · rw [if_pos q, if_pos q]
      · rw [if_neg q, if_neg q, h _ (by omega) j hj]
  intro i hi j hj
  show udC b (sdC b S) i j = udC b (sdC b T) i j
  unfold udC
  rw [hs i hi j hj]
  congr 1
  · congr 1
    by_cases q : j = 0
    · rw [if_pos q, if_pos q]
    · rw [if_neg q, if_neg q, hs i hi _ (by omega)]
  · by_cases q : j + 1 < 120
    · rw [if_pos q, if_pos q, hs i hi _ (by omega)]
    · rw [if_neg q, if_neg q]
theorem spread_end {D D1 : Dt} {z : Fin 11} {S : Cl} {b : Bool} (h : Az z D D1 ∧ AC D1 z (sdC b S)) : Az z D (lU (lU D1 2 z (fun j => if j < 120 then udL (edL b) (D1.2.1 2 z) j else D1.2.1 2 z j)) 3 z (fun j => if j < 120 then udL (edL b) ((lU D1 2 z (fun j => if j < 120 then udL (edL b) (D1.2.1 2 z) j else D1.2.1 2 z j)).2.1 3 z) j else (lU D1 2 z (fun j => if j < 120 then udL (edL b) (D1.2.1 2 z) j else D1.2.1 2 z j)).2.1 3 z j)) ∧ AC (lU (lU D1 2 z (fun j => if j < 120 then udL (edL b) (D1.2.1 2 z) j else D1.2.1 2 z j)) 3 z (fun j => if j < 120 then udL (edL b) ((lU D1 2 z (fun j => if j < 120 then udL (edL b) (D1.2.1 2 z) j else D1.2.1 2 z j)).2.1 3 z) j else (lU D1 2 z (fun j => if j < 120 then udL (edL b) (D1.2.1 2 z) j else D1.2.1 2 z j)).2.1 3 z j)) z (spC b S) := by
  refine ⟨(h.1.tr (Az_2 z _ _)).tr (Az_3 z _ _), AC_ud b h.2 (fun j hj => ?_) (fun j hj => ?_)⟩
  · rw [lU_ne _ _ (by simp), lU_get, if_pos hj]
  · rw [lU_get, if_pos hj, lU_ne _ _ (by simp)]
theorem c_X0_spread {E : Le} {l : Launch} {D : Dt} {z : Fin 11} {S : Cl} {b : Bool} (hA : AC D z S) : ConVp E l yX0_spread cX0_spread 4 none 2 [.ref (E.1 (1, z)), .int (bI b)] D (fun D' => Az z D D' ∧ AC D' z (spC b S)) := by
  refine Con_of (by decide) (Nat.le_of_ble_eq_true rfl) ?_
  intro X hX hR hl; subst hl
  refine V_iload_n (pc := 0) (j := 1) hX 1 rfl rfl dX0_spread_0 ?_
  refine B_if_eq (pc := 1) (tgt := 10) hX dX0_spread_1 (by decide) (fun h1 => ?_) (fun h1 => ?_)
  · refine V_lconst (pc := 10) (z := 0) hX 0 (by decide) dX0_spread_10 ?_
    refine V_lstore_n (pc := 11) (j := 2) hX 2 rfl (by decide) rfl dX0_spread_11 ?_
    refine V_cut [(0, some (.ref (E.1 (1, z)))), (2, some (.long (edL b)))] ⟨rfl, congrArg (fun q => some (Value.long q)) (by rw [h1]; rfl), trivial⟩ ?_
    refine V_aload_n (pc := 12) (j := 0) hX 0 rfl rfl dX0_spread_12 ?_
    refine V_lload_n (pc := 13) (j := 2) hX 2 rfl rfl dX0_spread_13 ?_
    refine cVVp1 (pc := 14) hX (c_X0_spreadSideways (b := b) hA) (by decide) st_X0_51 (ix_1 _) rfl rfl rfl (Nat.le_of_ble_eq_true rfl) dX0_spread_14 (fun D14 h14 => ?_)
    refine V_aload_n (pc := 17) (j := 0) hX 0 rfl rfl dX0_spread_17 ?_
    refine gf_X0_9 (pc := 18) hX dX0_spread_18 ?_
    refine V_lload_n (pc := 21) (j := 2) hX 2 rfl rfl dX0_spread_21 ?_
    refine cSV2 (pc := 22) hX (c_X0_ud2) (by decide) st_X0_55 (Nat.le_of_ble_eq_true rfl) dX0_spread_22 ?_
    refine V_aload_n (pc := 25) (j := 0) hX 0 rfl rfl dX0_spread_25 ?_
    refine gf_X0_15 (pc := 26) hX dX0_spread_26 ?_
    refine V_lload_n (pc := 29) (j := 2) hX 2 rfl rfl dX0_spread_29 ?_
    refine cSV2 (pc := 30) hX (c_X0_ud3) (by decide) st_X0_55 (Nat.le_of_ble_eq_true rfl) dX0_spread_30 ?_
    refine V_vret (pc := 33) hX hR dX0_spread_33 ?_
    exact ⟨rfl, spread_end h14⟩
  · refine V_ldc2 (pc := 4) hX (1152921504606846975) w_279 dX0_spread_4 ?_
    refine V_goto (pc := 7) (off := 4) (tgt := 11) hX (by decide) dX0_spread_7 ?_
    refine V_lstore_n (pc := 11) (j := 2) hX 2 rfl (by decide) rfl dX0_spread_11 ?_
    refine V_cut [(0, some (.ref (E.1 (1, z)))), (2, some (.long (edL b)))] ⟨rfl, congrArg (fun q => some (Value.long q)) (by rw [h1]; rfl), trivial⟩ ?_
    refine V_aload_n (pc := 12) (j := 0) hX 0 rfl rfl dX0_spread_12 ?_
    refine V_lload_n (pc := 13) (j := 2) hX 2 rfl rfl dX0_spread_13 ?_
    refine cVVp1 (pc := 14) hX (c_X0_spreadSideways (b := b) hA) (by decide) st_X0_51 (ix_1 _) rfl rfl rfl (Nat.le_of_ble_eq_true rfl) dX0_spread_14 (fun D14 h14 => ?_)
    refine V_aload_n (pc := 17) (j := 0) hX 0 rfl rfl dX0_spread_17 ?_
    refine gf_X0_9 (pc := 18) hX dX0_spread_18 ?_
    refine V_lload_n (pc := 21) (j := 2) hX 2 rfl rfl dX0_spread_21 ?_
    refine cSV2 (pc := 22) hX (c_X0_ud2) (by decide) st_X0_55 (Nat.le_of_ble_eq_true rfl) dX0_spread_22 ?_
    refine V_aload_n (pc := 25) (j := 0) hX 0 rfl rfl dX0_spread_25 ?_
    refine gf_X0_15 (pc := 26) hX dX0_spread_26 ?_
    refine V_lload_n (pc := 29) (j := 2) hX 2 rfl rfl dX0_spread_29 ?_
    refine cSV2 (pc := 30) hX (c_X0_ud3) (by decide) st_X0_55 (Nat.le_of_ble_eq_true rfl) dX0_spread_30 ?_
    refine V_vret (pc := 33) hX hR dX0_spread_33 ?_
    exact ⟨rfl, spread_end h14⟩
theorem pdb_i {S : Cl} {i j : Nat} (hj : j < 120) : pd S i (j + 1) = if 1 ≤ i ∧ i ≤ 120 then S (i - 1) j else false := by
  rw [pd]
  by_cases h : 1 ≤ i ∧ i ≤ 120
  · rw [if_pos h, decide_eq_true (by omega), Bool.true_and]; rfl
  · rw [if_neg h, decide_eq_false (by omega), Bool.false_and]
theorem rowG_sd {S : Cl} {i j : Nat} (hi : i < 120) (hj : j < 120) : rowG S i (j + 1) = sdC false S i j := by
  rw [rowG, pd_in hi hj, pdb_i hj, pdb_i hj, sdC]
  congr 1
  · congr 1
    by_cases h : i = 0
    · rw [if_pos h, if_neg (by omega)]
    · rw [if_neg h, if_pos (by omega)]
  · by_cases h : i = 119
    · rw [if_pos h, if_neg (by omega)]
    · rw [if_neg h, if_pos (by omega)]; rfl
theorem rowG_0 {S : Cl} {i j : Nat} (h : j = 0 ∨ 121 ≤ j) : rowG S i j = false := by
  rw [rowG, pd_j h, pd_j h, pd_j h]; rfl
theorem step_t {S : Cl} : ∀ i, i < 120 → ∀ j, j < 120 → spC false S i j = stepC true S i j := by
  intro i hi j hj
  show udC false (sdC false S) i j = ((rowG S i j || rowG S i (j + 1)) || rowG S i (j + 2))
  rw [udC, rowG_sd hi hj]
  congr 1
  · congr 1
    by_cases h : j = 0
    · rw [if_pos h, rowG_0 (Or.inl h)]
    · rw [if_neg h, ← rowG_sd hi (by omega), show j - 1 + 1 = j by omega]
  · by_cases h : j + 1 < 120
    · rw [if_pos h, ← rowG_sd hi h]
    · rw [if_neg h, rowG_0 (by omega)]
theorem rowS_sd {S : Cl} {i j : Nat} (hi : i < 120) (hj : j < 120) : rowS S i (j + 1) = !sdC true (restC S) i j := by
  rw [rowS, pd_in hi hj, pdb_i hj, pdb_i hj, sdC, Bool.not_or, Bool.not_or]
  show _ = ((!!S i j && _) && _)
  rw [Bool.not_not]
  congr 1
  · congr 1
    by_cases h : i = 0
    · rw [if_pos h, if_neg (by omega)]; rfl
    · rw [if_neg h, if_pos (by omega)]; exact (Bool.not_not _).symm
  · by_cases h : i = 119
    · rw [if_pos h, if_neg (by omega)]; rfl
    · rw [if_neg h, if_pos (by omega)]; exact (Bool.not_not _).symm
theorem rowS_0 {S : Cl} {i j : Nat} (h : j = 0 ∨ 121 ≤ j) : rowS S i j = false := by
  rw [rowS, pd_j h, pd_j h, pd_j h]; rfl
theorem step_f {S : Cl} : ∀ i, i < 120 → ∀ j, j < 120 → spC true (restC S) i j = !stepC false S i j := by
  intro i hi j hj
  show udC true (sdC true (restC S)) i j = !((rowS S i j && rowS S i (j + 1)) && rowS S i (j + 2))
  rw [udC, rowS_sd hi hj, Bool.not_and, Bool.not_and, Bool.not_not]
  congr 1
  · congr 1
    by_cases h : j = 0
    · rw [if_pos h, rowS_0 (Or.inl h)]; rfl
    · rw [if_neg h, show j = j - 1 + 1 by omega, rowS_sd hi (by omega), Bool.not_not]; rfl
  · by_cases h : j + 1 < 120
    · rw [if_pos h, rowS_sd hi h, Bool.not_not]
    · rw [if_neg h, rowS_0 (by omega)]; rfl
