/-! THE CLASS: touches, how long round -/
def nrW (f g : Nat → Int64) (k : Nat) : Int64 := ((((f k ||| sl (f k) 1) ||| us (f k) 1) ||| sl (g k) 59) ||| (if 0 < k then f (k - 1) else 0)) ||| (if k + 1 < 120 then f (k + 1) else 0)
def nrE (f g : Nat → Int64) (k : Nat) : Int64 := ((((g k ||| sl (g k) 1) ||| us (g k) 1) ||| us (f k) 59) ||| (if 0 < k then g (k - 1) else 0)) ||| (if k + 1 < 120 then g (k + 1) else 0)
theorem pd_w {D : Dt} {z : Fin 11} {A : Cl} (hA : AC D z A) {i k : Nat} (hi : i < 60) (hk : k < 120) : tb (D.2.1 2 z k) i = pd A (i + 1) (k + 1) := by rw [AC_w hA hi hk, pd_in (by omega) hk]
theorem pd_e {D : Dt} {z : Fin 11} {A : Cl} (hA : AC D z A) {i k : Nat} (hi : i < 60) (hk : k < 120) : tb (D.2.1 3 z k) i = pd A (i + 61) (k + 1) := by rw [AC_e hA hi hk, show i + 61 = (60 + i) + 1 by omega, pd_in (by omega) hk]
theorem pd_bw {D : Dt} {z : Fin 11} {A : Cl} (hA : AC D z A) {i k : Nat} (hi : i < 60) (hk : k < 120) : tb (if 0 < k then D.2.1 2 z (k - 1) else 0) i = pd A (i + 1) k ∧ tb (if k + 1 < 120 then D.2.1 2 z (k + 1) else 0) i = pd A (i + 1) (k + 2) := by
  constructor
  · by_cases h : 0 < k
    · rw [if_pos h, pd_w hA hi (by omega), show k - 1 + 1 = k by omega]
    · rw [if_neg h, tb_0, pd_j (by omega)]
  · by_cases h : k + 1 < 120
    · rw [if_pos h, pd_w hA hi h]
    · rw [if_neg h, tb_0, pd_j (by omega)]
theorem pd_be {D : Dt} {z : Fin 11} {A : Cl} (hA : AC D z A) {i k : Nat} (hi : i < 60) (hk : k < 120) : tb (if 0 < k then D.2.1 3 z (k - 1) else 0) i = pd A (i + 61) k ∧ tb (if k + 1 < 120 then D.2.1 3 z (k + 1) else 0) i = pd A (i + 61) (k + 2) := by
  constructor
  · by_cases h : 0 < k
    · rw [if_pos h, pd_e hA hi (by omega), show k - 1 + 1 = k by omega]
    · rw [if_neg h, tb_0, pd_j (by omega)]
  · by_cases h : k + 1 < 120
    · rw [if_pos h, pd_e hA hi h]
    · rw [if_neg h, tb_0, pd_j (by omega)]
theorem pd_lw {D : Dt} {z : Fin 11} {A : Cl} (hA : AC D z A) {i k : Nat} (hi : i < 60) (hk : k < 120) : tb (sl (D.2.1 2 z k) 1) i = pd A i (k + 1) := by
  rw [tb_sl _ (by decide), decide_eq_true (by omega : i < 64)]
  by_cases h : i = 0
  · subst h; rw [pd_i0]; rfl
  · rw [decide_eq_true (by omega : 1 ≤ i), pd_w hA (by omega) hk, show i - 1 + 1 = i by omega]; rfl
theorem pd_rw {D : Dt} {z : Fin 11} {A : Cl} (hA : AC D z A) {i k : Nat} (hi : i < 60) (hk : k < 120) : (tb (us (D.2.1 2 z k) 1) i || tb (sl (D.2.1 3 z k) 59) i) = pd A (i + 2) (k + 1) := by
  rw [tb_us _ (by decide), tb_sl _ (by decide), decide_eq_true (by omega : i < 64)]
  by_cases h : i = 59
  · subst h
    rw [AC_60w hA hk (1 + 59) (by omega), pd_e hA (by omega) hk]; rfl
  · rw [decide_eq_false (by omega : ¬ 59 ≤ i), pd_w hA (by omega) hk, show 1 + i + 1 = i + 2 by omega]
    simp
theorem pd_re {D : Dt} {z : Fin 11} {A : Cl} (hA : AC D z A) {i k : Nat} (hi : i < 60) (hk : k < 120) : tb (us (D.2.1 3 z k) 1) i = pd A (i + 62) (k + 1) := by
  rw [tb_us _ (by decide)]
  by_cases h : i = 59
  · subst h
    rw [AC_60e hA hk (1 + 59) (by omega)]; exact (pd_i1 A (k + 1)).symm
  · rw [pd_e hA (by omega) hk, show 1 + i + 61 = i + 62 by omega]
theorem pd_le {D : Dt} {z : Fin 11} {A : Cl} (hA : AC D z A) {i k : Nat} (hi : i < 60) (hk : k < 120) : (tb (sl (D.2.1 3 z k) 1) i || tb (us (D.2.1 2 z k) 59) i) = pd A (i + 60) (k + 1) := by
  rw [tb_us _ (by decide), tb_sl _ (by decide), decide_eq_true (by omega : i < 64)]
  by_cases h : i = 0
  · subst h
    rw [pd_w hA (by omega) hk]; simp
  · rw [decide_eq_true (by omega : 1 ≤ i), AC_60w hA hk (59 + i) (by omega), pd_e hA (by omega) hk, show i - 1 + 61 = i + 60 by omega]
    simp
theorem nrW_tb {D : Dt} {z : Fin 11} {A : Cl} (hA : AC D z A) {i k : Nat} (hi : i < 60) (hk : k < 120) : tb (nrW (D.2.1 2 z) (D.2.1 3 z) k) i = nb4 A i k := by
  rw [nrW, tb_or, tb_or, tb_or, tb_or, tb_or, pd_w hA hi hk, pd_lw hA hi hk, (pd_bw hA hi hk).1, (pd_bw hA hi hk).2, nb4, ← pd_rw hA hi hk]
  simp only [Bool.or_assoc]
theorem nrE_tb {D : Dt} {z : Fin 11} {A : Cl} (hA : AC D z A) {i k : Nat} (hi : i < 60) (hk : k < 120) : tb (nrE (D.2.1 2 z) (D.2.1 3 z) k) i = nb4 A (60 + i) k := by
  rw [nrE, tb_or, tb_or, tb_or, tb_or, tb_or, pd_e hA hi hk, pd_re hA hi hk, (pd_be hA hi hk).1, (pd_be hA hi hk).2, nb4, show 60 + i + 1 = i + 61 by omega, show 60 + i + 2 = i + 62 by omega, show 60 + i = i + 60 by omega, ← pd_le hA hi hk]
  generalize pd A (i + 61) (k + 1) = b1
  generalize tb (sl (D.2.1 3 z k) 1) i = b2
  generalize pd A (i + 62) (k + 1) = b3
  generalize tb (us (D.2.1 2 z k) 59) i = b4
  generalize pd A (i + 61) k = b5
  generalize pd A (i + 61) (k + 2) = b6
  revert b1 b2 b3 b4 b5 b6
  decide
theorem touch_row {D : Dt} {z y : Fin 11} {A B : Cl} (hA : AC D z A) (hB : AC D y B) {k : Nat} (hk : k < 120) : ((nrW (D.2.1 2 z) (D.2.1 3 z) k &&& D.2.1 2 y k) ||| (nrE (D.2.1 2 z) (D.2.1 3 z) k &&& D.2.1 3 y k) = 0) ↔ ∀ i, i < 120 → (nb4 A i k && B i k) = false := by
  rw [or0]
  constructor
  · rintro ⟨e1, e2⟩ i hi
    by_cases q : i < 60
    · rw [← nrW_tb hA q hk, ← AC_w hB q hk, ← tb_and, e1, tb_0]
    · have c := nrE_tb hA (i := i - 60) (by omega) hk
      have c2 := AC_e hB (i := i - 60) (by omega) hk
      rw [show 60 + (i - 60) = i by omega] at c c2
      rw [← c, ← c2, ← tb_and, e2, tb_0]
  · intro h
    refine ⟨b60_ext (fun i hi => by rw [tb_and, AC_60w hB hk i hi, Bool.and_false]) b60_0 (fun i hi => ?_), b60_ext (fun i hi => by rw [tb_and, AC_60e hB hk i hi, Bool.and_false]) b60_0 (fun i hi => ?_)⟩
    · rw [tb_and, nrW_tb hA hi hk, AC_w hB hi hk, h i (by omega), tb_0]
    · rw [tb_and, nrE_tb hA hi hk, AC_e hB hi hk, h (60 + i) (by omega), tb_0]
theorem n5_nb {A B : Cl} {i j : Nat} (hi : i < 120) (hj : j < 120) : n5 A B i j = (A i j && nb4 B i j) := by
  rw [n5, nb4, pd_in hi hj]
theorem bes_t {A B : Cl} {i j : Nat} (hi : i < 120) (hj : j < 120) (h : (nb4 A i j && B i j) = true) : 0 < besN A B := by
  rw [Bool.and_eq_true] at h
  obtain ⟨x, y, ⟨hx, hy⟩, hU, -, hc⟩ := nb4_ex h.1
  have hn : n5 A B x y = true := by
    rw [n5_nb hx hy, hU, Bool.true_and]
    exact nb4_at hi hj h.2 (by omega)
  have h1 : 0 < fb_ct (fun i => n5 A B i y) 120 := fb_ct_pos.mpr ⟨x, hx, hn⟩
  have h2 := fb_sm_part (fun j => fb_ct (fun i => n5 A B i j) 120) hy
  rw [besN]
  omega
theorem bes_f {A B : Cl} (h : ∀ j, j < 120 → ∀ i, i < 120 → (nb4 A i j && B i j) = false) : besN A B = 0 := by
  rw [besN, fb_sm_cong (g := fun _ => 0) (fun j hj => fb_ct_zero.mpr (fun i hi => ?_)), fb_sm_const]
  rw [n5_nb hi hj]
  apply Bool.eq_false_iff.mpr
  intro q
  rw [Bool.and_eq_true] at q
  obtain ⟨x, y, ⟨hx, hy⟩, hU, -, hc⟩ := nb4_ex q.2
  have := h y hy x hx
  rw [nb4_at hi hj q.1 (by omega), hU] at this
  cases this
theorem c_X0_touches {E : Le} {l : Launch} {D : Dt} {z y : Fin 11} {A B : Cl} (hA : AC D z A) (hB : AC D y B) : ConI E l yX0_touches cX0_touches 11 (some .boolean) 1 [.ref (E.1 (1, z)), .ref (E.1 (1, y))] D (bI (decide (0 < besN A B))) D := by
  refine Con_of (by decide) (Nat.le_of_ble_eq_true rfl) ?_
  intro X hX hR hl; subst hl
  have loop : ∀ (m : Nat) (k : Nat), k ≤ 120 → (∀ j, j < k → ∀ i, i < 120 → (nb4 A i j && B i j) = false) → 120 - k < m → Vw E X 11 D 2 [(0, some (.ref (E.1 (1, z)))), (1, some (.ref (E.1 (1, y)))), (2, some (.int (oI (k : Int))))] [] := by
    intro m
    induction m with
    | zero => intro k g1 g2 g3; omega
    | succ m ih =>
      intro k g1 g2 g3
      refine V_iload_n (pc := 2) (j := 2) hX 2 rfl rfl dX0_touches_2 ?_
      refine V_bipush (pc := 3) (z := 120) hX (oI 120) (by decide) dX0_touches_3 ?_
      refine Z_icmp_ge (pc := 5) (tgt := 155) hX (by omega) (by omega) dX0_touches_5 (by decide) (fun h5 => ?_) (fun h5 => ?_)
      · refine V_iconst (pc := 155) (z := 0) hX (oI 0) rfl dX0_touches_155 ?_
        refine V_zret (pc := 156) hX hR (by decide) dX0_touches_156 ?_
        have e : k = 120 := by omega
        subst e
        exact ⟨some_int (bI_0 (decide_eq_false (by rw [bes_f g2]; omega))), rfl⟩
      · refine V_aload_n (pc := 8) (j := 0) hX 0 rfl rfl dX0_touches_8 ?_
        refine gf_X0_9 (pc := 9) hX dX0_touches_9 ?_
        refine V_iload_n (pc := 12) (j := 2) hX 2 rfl rfl dX0_touches_12 ?_
        refine zl_2 (pc := 13) hX (k) (by omega) (by omega) dX0_touches_13 ?_
        refine V_lstore_n (pc := 14) (j := 3) hX 3 rfl (by decide) rfl dX0_touches_14 ?_
        refine V_aload_n (pc := 15) (j := 0) hX 0 rfl rfl dX0_touches_15 ?_
        refine gf_X0_15 (pc := 16) hX dX0_touches_16 ?_
        refine V_iload_n (pc := 19) (j := 2) hX 2 rfl rfl dX0_touches_19 ?_
        refine zl_3 (pc := 20) hX (k) (by omega) (by omega) dX0_touches_20 ?_
        refine V_lstore (pc := 21) hX (by decide) rfl dX0_touches_21 ?_
        refine V_lload_n (pc := 23) (j := 3) hX 3 rfl rfl dX0_touches_23 ?_
        refine V_lload_n (pc := 24) (j := 3) hX 3 rfl rfl dX0_touches_24 ?_
        refine V_iconst (pc := 25) (z := 1) hX (oI 1) rfl dX0_touches_25 ?_
        refine V_lshl (pc := 26) hX dX0_touches_26 ?_
        refine V_lor (pc := 27) hX dX0_touches_27 ?_
        refine V_lload_n (pc := 28) (j := 3) hX 3 rfl rfl dX0_touches_28 ?_
        refine V_iconst (pc := 29) (z := 1) hX (oI 1) rfl dX0_touches_29 ?_
        refine V_lushr (pc := 30) hX dX0_touches_30 ?_
        refine V_lor (pc := 31) hX dX0_touches_31 ?_
        refine V_lload (pc := 32) hX rfl dX0_touches_32 ?_
        refine V_bipush (pc := 34) (z := 59) hX (oI 59) (by decide) dX0_touches_34 ?_
        refine V_lshl (pc := 36) hX dX0_touches_36 ?_
        refine V_lor (pc := 37) hX dX0_touches_37 ?_
        refine V_lstore (pc := 38) hX (by decide) rfl dX0_touches_38 ?_
        refine V_lload (pc := 40) hX rfl dX0_touches_40 ?_
        refine V_lload (pc := 42) hX rfl dX0_touches_42 ?_
        refine V_iconst (pc := 44) (z := 1) hX (oI 1) rfl dX0_touches_44 ?_
        refine V_lshl (pc := 45) hX dX0_touches_45 ?_
        refine V_lor (pc := 46) hX dX0_touches_46 ?_
        refine V_lload (pc := 47) hX rfl dX0_touches_47 ?_
        refine V_iconst (pc := 49) (z := 1) hX (oI 1) rfl dX0_touches_49 ?_
        refine V_lushr (pc := 50) hX dX0_touches_50 ?_
        refine V_lor (pc := 51) hX dX0_touches_51 ?_
        refine V_lload_n (pc := 52) (j := 3) hX 3 rfl rfl dX0_touches_52 ?_
        refine V_bipush (pc := 53) (z := 59) hX (oI 59) (by decide) dX0_touches_53 ?_
        refine V_lushr (pc := 55) hX dX0_touches_55 ?_
        refine V_lor (pc := 56) hX dX0_touches_56 ?_
        refine V_lstore (pc := 57) hX (by decide) rfl dX0_touches_57 ?_
        refine V_iload_n (pc := 59) (j := 2) hX 2 rfl rfl dX0_touches_59 ?_
        refine Z_if_le (pc := 60) (tgt := 89) hX (by omega) dX0_touches_60 (by decide) (fun h60 => ?_) (fun h60 => ?_)
        · refine V_iload_n (pc := 89) (j := 2) hX 2 rfl rfl dX0_touches_89 ?_
          refine V_iconst (pc := 90) (z := 1) hX (oI 1) rfl dX0_touches_90 ?_
          refine Z_iadd (pc := 91) hX dX0_touches_91 ?_
          refine V_bipush (pc := 92) (z := 120) hX (oI 120) (by decide) dX0_touches_92 ?_
          refine Z_icmp_ge (pc := 94) (tgt := 123) hX (by omega) (by omega) dX0_touches_94 (by decide) (fun h94 => ?_) (fun h94 => ?_)
          · refine V_cut [(0, some (.ref (E.1 (1, z)))), (1, some (.ref (E.1 (1, y)))), (2, some (.int (oI (k : Int)))), (7, some (.long (nrW (D.2.1 2 z) (D.2.1 3 z) k))), (9, some (.long (nrE (D.2.1 2 z) (D.2.1 3 z) k)))] ⟨rfl, rfl, rfl, congrArg (fun q => some (Value.long q)) (by rw [nrW, if_neg (show ¬ 0 < k by omega), if_neg (show ¬ k + 1 < 120 by omega), Int64.or_zero, Int64.or_zero] <;> rfl), congrArg (fun q => some (Value.long q)) (by rw [nrE, if_neg (show ¬ 0 < k by omega), if_neg (show ¬ k + 1 < 120 by omega), Int64.or_zero, Int64.or_zero] <;> rfl), trivial⟩ ?_
            refine V_lload (pc := 123) hX rfl dX0_touches_123 ?_
            refine V_aload_n (pc := 125) (j := 1) hX 1 rfl rfl dX0_touches_125 ?_
            refine gf_X0_9 (pc := 126) hX dX0_touches_126 ?_
            refine V_iload_n (pc := 129) (j := 2) hX 2 rfl rfl dX0_touches_129 ?_
            refine zl_2 (pc := 130) hX (k) (by omega) (by omega) dX0_touches_130 ?_
            refine V_land (pc := 131) hX dX0_touches_131 ?_
            refine V_lload (pc := 132) hX rfl dX0_touches_132 ?_
            refine V_aload_n (pc := 134) (j := 1) hX 1 rfl rfl dX0_touches_134 ?_
            refine gf_X0_15 (pc := 135) hX dX0_touches_135 ?_
            refine V_iload_n (pc := 138) (j := 2) hX 2 rfl rfl dX0_touches_138 ?_
            refine zl_3 (pc := 139) hX (k) (by omega) (by omega) dX0_touches_139 ?_
            refine V_land (pc := 140) hX dX0_touches_140 ?_
            refine V_lor (pc := 141) hX dX0_touches_141 ?_
            refine V_lconst (pc := 142) (z := 0) hX 0 (by decide) dX0_touches_142 ?_
            refine V_lcmp (pc := 143) hX dX0_touches_143 ?_
            refine L_if_eq (pc := 144) (tgt := 149) hX dX0_touches_144 (by decide) (fun h144 => ?_) (fun h144 => ?_)
            · refine Z_iinc (pc := 149) hX 1 rfl rfl dX0_touches_149 ?_
              refine V_goto (pc := 152) (off := (-150)) (tgt := 2) hX (by decide) dX0_touches_152 ?_
              have h144 := (touch_row hA hB (k := k) (by omega)).mp h144
              refine V_cut [(0, some (.ref (E.1 (1, z)))), (1, some (.ref (E.1 (1, y)))), (2, some (.int (oI ((k + 1 : Nat) : Int))))] ⟨rfl, rfl, rfl, trivial⟩ ?_
              refine ih (k + 1) (by omega) (fun j hj => ?_) (by omega)
              by_cases q : j = k
              · rw [q]; exact h144
              · exact g2 j (by omega)
            · refine V_iconst (pc := 147) (z := 1) hX (oI 1) rfl dX0_touches_147 ?_
              refine V_zret (pc := 148) hX hR (by decide) dX0_touches_148 ?_
              refine ⟨some_int (bI_1 (decide_eq_true ?_)), rfl⟩
              by_cases c : ∃ i, i < 120 ∧ (nb4 A i k && B i k) = true
              · obtain ⟨i, hi, hc⟩ := c
                exact bes_t hi (by omega) hc
              · exact absurd ((touch_row hA hB (k := k) (by omega)).mpr (fun i hi => Bool.eq_false_iff.mpr (fun q => c ⟨i, hi, q⟩))) h144
          · refine V_lload (pc := 97) hX rfl dX0_touches_97 ?_
            refine V_aload_n (pc := 99) (j := 0) hX 0 rfl rfl dX0_touches_99 ?_
            refine gf_X0_9 (pc := 100) hX dX0_touches_100 ?_
            refine V_iload_n (pc := 103) (j := 2) hX 2 rfl rfl dX0_touches_103 ?_
            refine V_iconst (pc := 104) (z := 1) hX (oI 1) rfl dX0_touches_104 ?_
            refine Z_iadd (pc := 105) hX dX0_touches_105 ?_
            refine zl_2 (pc := 106) hX (k + 1) (by omega) (by omega) dX0_touches_106 ?_
            refine V_lor (pc := 107) hX dX0_touches_107 ?_
            refine V_lstore (pc := 108) hX (by decide) rfl dX0_touches_108 ?_
            refine V_lload (pc := 110) hX rfl dX0_touches_110 ?_
            refine V_aload_n (pc := 112) (j := 0) hX 0 rfl rfl dX0_touches_112 ?_
            refine gf_X0_15 (pc := 113) hX dX0_touches_113 ?_
            refine V_iload_n (pc := 116) (j := 2) hX 2 rfl rfl dX0_touches_116 ?_
            refine V_iconst (pc := 117) (z := 1) hX (oI 1) rfl dX0_touches_117 ?_
            refine Z_iadd (pc := 118) hX dX0_touches_118 ?_
            refine zl_3 (pc := 119) hX (k + 1) (by omega) (by omega) dX0_touches_119 ?_
            refine V_lor (pc := 120) hX dX0_touches_120 ?_
            refine V_lstore (pc := 121) hX (by decide) rfl dX0_touches_121 ?_
            refine V_cut [(0, some (.ref (E.1 (1, z)))), (1, some (.ref (E.1 (1, y)))), (2, some (.int (oI (k : Int)))), (7, some (.long (nrW (D.2.1 2 z) (D.2.1 3 z) k))), (9, some (.long (nrE (D.2.1 2 z) (D.2.1 3 z) k)))] ⟨rfl, rfl, rfl, congrArg (fun q => some (Value.long q)) (by rw [nrW, if_neg (show ¬ 0 < k by omega), if_pos (show k + 1 < 120 by omega), Int64.or_zero] <;> rfl), congrArg (fun q => some (Value.long q)) (by rw [nrE, if_neg (show ¬ 0 < k by omega), if_pos (show k + 1 < 120 by omega), Int64.or_zero] <;> rfl), trivial⟩ ?_
            refine V_lload (pc := 123) hX rfl dX0_touches_123 ?_
            refine V_aload_n (pc := 125) (j := 1) hX 1 rfl rfl dX0_touches_125 ?_
            refine gf_X0_9 (pc := 126) hX dX0_touches_126 ?_
            refine V_iload_n (pc := 129) (j := 2) hX 2 rfl rfl dX0_touches_129 ?_
            refine zl_2 (pc := 130) hX (k) (by omega) (by omega) dX0_touches_130 ?_
            refine V_land (pc := 131) hX dX0_touches_131 ?_
            refine V_lload (pc := 132) hX rfl dX0_touches_132 ?_
            refine V_aload_n (pc := 134) (j := 1) hX 1 rfl rfl dX0_touches_134 ?_
            refine gf_X0_15 (pc := 135) hX dX0_touches_135 ?_
            refine V_iload_n (pc := 138) (j := 2) hX 2 rfl rfl dX0_touches_138 ?_
            refine zl_3 (pc := 139) hX (k) (by omega) (by omega) dX0_touches_139 ?_
            refine V_land (pc := 140) hX dX0_touches_140 ?_
            refine V_lor (pc := 141) hX dX0_touches_141 ?_
            refine V_lconst (pc := 142) (z := 0) hX 0 (by decide) dX0_touches_142 ?_
            refine V_lcmp (pc := 143) hX dX0_touches_143 ?_
            refine L_if_eq (pc := 144) (tgt := 149) hX dX0_touches_144 (by decide) (fun h144 => ?_) (fun h144 => ?_)
            · refine Z_iinc (pc := 149) hX 1 rfl rfl dX0_touches_149 ?_
              refine V_goto (pc := 152) (off := (-150)) (tgt := 2) hX (by decide) dX0_touches_152 ?_
              have h144 := (touch_row hA hB (k := k) (by omega)).mp h144
              refine V_cut [(0, some (.ref (E.1 (1, z)))), (1, some (.ref (E.1 (1, y)))), (2, some (.int (oI ((k + 1 : Nat) : Int))))] ⟨rfl, rfl, rfl, trivial⟩ ?_
              refine ih (k + 1) (by omega) (fun j hj => ?_) (by omega)
              by_cases q : j = k
              · rw [q]; exact h144
              · exact g2 j (by omega)
            · refine V_iconst (pc := 147) (z := 1) hX (oI 1) rfl dX0_touches_147 ?_
              refine V_zret (pc := 148) hX hR (by decide) dX0_touches_148 ?_
              refine ⟨some_int (bI_1 (decide_eq_true ?_)), rfl⟩
              by_cases c : ∃ i, i < 120 ∧ (nb4 A i k && B i k) = true
              · obtain ⟨i, hi, hc⟩ := c
                exact bes_t hi (by omega) hc
              · exact absurd ((touch_row hA hB (k := k) (by omega)).mpr (fun i hi => Bool.eq_false_iff.mpr (fun q => c ⟨i, hi, q⟩))) h144
        · refine V_lload (pc := 63) hX rfl dX0_touches_63 ?_
          refine V_aload_n (pc := 65) (j := 0) hX 0 rfl rfl dX0_touches_65 ?_
          refine gf_X0_9 (pc := 66) hX dX0_touches_66 ?_
          refine V_iload_n (pc := 69) (j := 2) hX 2 rfl rfl dX0_touches_69 ?_
          refine V_iconst (pc := 70) (z := 1) hX (oI 1) rfl dX0_touches_70 ?_
          refine Z_isub (pc := 71) hX dX0_touches_71 ?_
          refine zl_2 (pc := 72) hX (k - 1) (by omega) (by omega) dX0_touches_72 ?_
          refine V_lor (pc := 73) hX dX0_touches_73 ?_
          refine V_lstore (pc := 74) hX (by decide) rfl dX0_touches_74 ?_
          refine V_lload (pc := 76) hX rfl dX0_touches_76 ?_
          refine V_aload_n (pc := 78) (j := 0) hX 0 rfl rfl dX0_touches_78 ?_
          refine gf_X0_15 (pc := 79) hX dX0_touches_79 ?_
          refine V_iload_n (pc := 82) (j := 2) hX 2 rfl rfl dX0_touches_82 ?_
          refine V_iconst (pc := 83) (z := 1) hX (oI 1) rfl dX0_touches_83 ?_
          refine Z_isub (pc := 84) hX dX0_touches_84 ?_
          refine zl_3 (pc := 85) hX (k - 1) (by omega) (by omega) dX0_touches_85 ?_
          refine V_lor (pc := 86) hX dX0_touches_86 ?_
          refine V_lstore (pc := 87) hX (by decide) rfl dX0_touches_87 ?_
          refine V_iload_n (pc := 89) (j := 2) hX 2 rfl rfl dX0_touches_89 ?_
          refine V_iconst (pc := 90) (z := 1) hX (oI 1) rfl dX0_touches_90 ?_
          refine Z_iadd (pc := 91) hX dX0_touches_91 ?_
          refine V_bipush (pc := 92) (z := 120) hX (oI 120) (by decide) dX0_touches_92 ?_
          refine Z_icmp_ge (pc := 94) (tgt := 123) hX (by omega) (by omega) dX0_touches_94 (by decide) (fun h94 => ?_) (fun h94 => ?_)
          · refine V_cut [(0, some (.ref (E.1 (1, z)))), (1, some (.ref (E.1 (1, y)))), (2, some (.int (oI (k : Int)))), (7, some (.long (nrW (D.2.1 2 z) (D.2.1 3 z) k))), (9, some (.long (nrE (D.2.1 2 z) (D.2.1 3 z) k)))] ⟨rfl, rfl, rfl, congrArg (fun q => some (Value.long q)) (by rw [nrW, if_pos (show 0 < k by omega), if_neg (show ¬ k + 1 < 120 by omega), Int64.or_zero] <;> rfl), congrArg (fun q => some (Value.long q)) (by rw [nrE, if_pos (show 0 < k by omega), if_neg (show ¬ k + 1 < 120 by omega), Int64.or_zero] <;> rfl), trivial⟩ ?_
            refine V_lload (pc := 123) hX rfl dX0_touches_123 ?_
            refine V_aload_n (pc := 125) (j := 1) hX 1 rfl rfl dX0_touches_125 ?_
            refine gf_X0_9 (pc := 126) hX dX0_touches_126 ?_
            refine V_iload_n (pc := 129) (j := 2) hX 2 rfl rfl dX0_touches_129 ?_
            refine zl_2 (pc := 130) hX (k) (by omega) (by omega) dX0_touches_130 ?_
            refine V_land (pc := 131) hX dX0_touches_131 ?_
            refine V_lload (pc := 132) hX rfl dX0_touches_132 ?_
            refine V_aload_n (pc := 134) (j := 1) hX 1 rfl rfl dX0_touches_134 ?_
            refine gf_X0_15 (pc := 135) hX dX0_touches_135 ?_
            refine V_iload_n (pc := 138) (j := 2) hX 2 rfl rfl dX0_touches_138 ?_
            refine zl_3 (pc := 139) hX (k) (by omega) (by omega) dX0_touches_139 ?_
            refine V_land (pc := 140) hX dX0_touches_140 ?_
            refine V_lor (pc := 141) hX dX0_touches_141 ?_
            refine V_lconst (pc := 142) (z := 0) hX 0 (by decide) dX0_touches_142 ?_
            refine V_lcmp (pc := 143) hX dX0_touches_143 ?_
            refine L_if_eq (pc := 144) (tgt := 149) hX dX0_touches_144 (by decide) (fun h144 => ?_) (fun h144 => ?_)
            · refine Z_iinc (pc := 149) hX 1 rfl rfl dX0_touches_149 ?_
              refine V_goto (pc := 152) (off := (-150)) (tgt := 2) hX (by decide) dX0_touches_152 ?_
              have h144 := (touch_row hA hB (k := k) (by omega)).mp h144
              refine V_cut [(0, some (.ref (E.1 (1, z)))), (1, some (.ref (E.1 (1, y)))), (2, some (.int (oI ((k + 1 : Nat) : Int))))] ⟨rfl, rfl, rfl, trivial⟩ ?_
              refine ih (k + 1) (by omega) (fun j hj => ?_) (by omega)
              by_cases q : j = k
              · rw [q]; exact h144
              · exact g2 j (by omega)
            · refine V_iconst (pc := 147) (z := 1) hX (oI 1) rfl dX0_touches_147 ?_
              refine V_zret (pc := 148) hX hR (by decide) dX0_touches_148 ?_
              refine ⟨some_int (bI_1 (decide_eq_true ?_)), rfl⟩
              by_cases c : ∃ i, i < 120 ∧ (nb4 A i k && B i k) = true
              · obtain ⟨i, hi, hc⟩ := c
                exact bes_t hi (by omega) hc
              · exact absurd ((touch_row hA hB (k := k) (by omega)).mpr (fun i hi => Bool.eq_false_iff.mpr (fun q => c ⟨i, hi, q⟩))) h144
          · refine V_lload (pc := 97) hX rfl dX0_touches_97 ?_
            refine V_aload_n (pc := 99) (j := 0) hX 0 rfl rfl dX0_touches_99 ?_
            refine gf_X0_9 (pc := 100) hX dX0_touches_100 ?_
            refine V_iload_n (pc := 103) (j := 2) hX 2 rfl rfl dX0_touches_103 ?_
            refine V_iconst (pc := 104) (z := 1) hX (oI 1) rfl dX0_touches_104 ?_
            refine Z_iadd (pc := 105) hX dX0_touches_105 ?_
            refine zl_2 (pc := 106) hX (k + 1) (by omega) (by omega) dX0_touches_106 ?_
            refine V_lor (pc := 107) hX dX0_touches_107 ?_
            refine V_lstore (pc := 108) hX (by decide) rfl dX0_touches_108 ?_
            refine V_lload (pc := 110) hX rfl dX0_touches_110 ?_
            refine V_aload_n (pc := 112) (j := 0) hX 0 rfl rfl dX0_touches_112 ?_
            refine gf_X0_15 (pc := 113) hX dX0_touches_113 ?_
            refine V_iload_n (pc := 116) (j := 2) hX 2 rfl rfl dX0_touches_116 ?_
            refine V_iconst (pc := 117) (z := 1) hX (oI 1) rfl dX0_touches_117 ?_
            refine Z_iadd (pc := 118) hX dX0_touches_118 ?_
            refine zl_3 (pc := 119) hX (k + 1) (by omega) (by omega) dX0_touches_119 ?_
            refine V_lor (pc := 120) hX dX0_touches_120 ?_
            refine V_lstore (pc := 121) hX (by decide) rfl dX0_touches_121 ?_
            refine V_cut [(0, some (.ref (E.1 (1, z)))), (1, some (.ref (E.1 (1, y)))), (2, some (.int (oI (k : Int)))), (7, some (.long (nrW (D.2.1 2 z) (D.2.1 3 z) k))), (9, some (.long (nrE (D.2.1 2 z) (D.2.1 3 z) k)))] ⟨rfl, rfl, rfl, congrArg (fun q => some (Value.long q)) (by rw [nrW, if_pos (show 0 < k by omega), if_pos (show k + 1 < 120 by omega)] <;> rfl), congrArg (fun q => some (Value.long q)) (by rw [nrE, if_pos (show 0 < k by omega), if_pos (show k + 1 < 120 by omega)] <;> rfl), trivial⟩ ?_
            refine V_lload (pc := 123) hX rfl dX0_touches_123 ?_
            refine V_aload_n (pc := 125) (j := 1) hX 1 rfl rfl dX0_touches_125 ?_
            refine gf_X0_9 (pc := 126) hX dX0_touches_126 ?_
            refine V_iload_n (pc := 129) (j := 2) hX 2 rfl rfl dX0_touches_129 ?_
            refine zl_2 (pc := 130) hX (k) (by omega) (by omega) dX0_touches_130 ?_
            refine V_land (pc := 131) hX dX0_touches_131 ?_
            refine V_lload (pc := 132) hX rfl dX0_touches_132 ?_
            refine V_aload_n (pc := 134) (j := 1) hX 1 rfl rfl dX0_touches_134 ?_
            refine gf_X0_15 (pc := 135) hX dX0_touches_135 ?_
            refine V_iload_n (pc := 138) (j := 2) hX 2 rfl rfl dX0_touches_138 ?_
            refine zl_3 (pc := 139) hX (k) (by omega) (by omega) dX0_touches_139 ?_
            refine V_land (pc := 140) hX dX0_touches_140 ?_
            refine V_lor (pc := 141) hX dX0_touches_141 ?_
            refine V_lconst (pc := 142) (z := 0) hX 0 (by decide) dX0_touches_142 ?_
            refine V_lcmp (pc := 143) hX dX0_touches_143 ?_
            refine L_if_eq (pc := 144) (tgt := 149) hX dX0_touches_144 (by decide) (fun h144 => ?_) (fun h144 => ?_)
            · refine Z_iinc (pc := 149) hX 1 rfl rfl dX0_touches_149 ?_
              refine V_goto (pc := 152) (off := (-150)) (tgt := 2) hX (by decide) dX0_touches_152 ?_
              have h144 := (touch_row hA hB (k := k) (by omega)).mp h144
              refine V_cut [(0, some (.ref (E.1 (1, z)))), (1, some (.ref (E.1 (1, y)))), (2, some (.int (oI ((k + 1 : Nat) : Int))))] ⟨rfl, rfl, rfl, trivial⟩ ?_
              refine ih (k + 1) (by omega) (fun j hj => ?_) (by omega)
              by_cases q : j = k
              · rw [q]; exact h144
              · exact g2 j (by omega)
            · refine V_iconst (pc := 147) (z := 1) hX (oI 1) rfl dX0_touches_147 ?_
              refine V_zret (pc := 148) hX hR (by decide) dX0_touches_148 ?_
              refine ⟨some_int (bI_1 (decide_eq_true ?_)), rfl⟩
              by_cases c : ∃ i, i < 120 ∧ (nb4 A i k && B i k) = true
              · obtain ⟨i, hi, hc⟩ := c
                exact bes_t hi (by omega) hc
              · exact absurd ((touch_row hA hB (k := k) (by omega)).mpr (fun i hi => Bool.eq_false_iff.mpr (fun q => c ⟨i, hi, q⟩))) h144
  refine V_iconst (pc := 0) (z := 0) hX (oI 0) rfl dX0_touches_0 ?_
  refine V_istore_n (pc := 1) (j := 2) hX 2 rfl (by decide) rfl dX0_touches_1 ?_
  refine V_cut [(0, some (.ref (E.1 (1, z)))), (1, some (.ref (E.1 (1, y)))), (2, some (.int (oI ((0 : Nat) : Int))))] ⟨rfl, rfl, rfl, trivial⟩ ?_
  exact loop 121 0 (by omega) (fun j hj => absurd hj (Nat.not_lt_zero j)) (by omega)
def wsL (w : Int64) : Int64 := (w ^^^ sl w 1) &&& ALc
def esL (w e : Int64) : Int64 := e ^^^ (sl e 1 ||| us w 59)
theorem c_X0_westSides {E : Le} {l : Launch} {D : Dt} {u : Int64} : ConL E l yX0_westSides cX0_westSides 2 (some .long) 1 [.long u] D (wsL u) D := by
  refine Con_of (by decide) (Nat.le_of_ble_eq_true rfl) ?_
  intro X hX hR hl; subst hl
  refine V_lload_n (pc := 0) (j := 0) hX 0 rfl rfl dX0_westSides_0 ?_
  refine V_lload_n (pc := 1) (j := 0) hX 0 rfl rfl dX0_westSides_1 ?_
  refine V_iconst (pc := 2) (z := 1) hX (oI 1) rfl dX0_westSides_2 ?_
  refine V_lshl (pc := 3) hX dX0_westSides_3 ?_
  refine V_lxor (pc := 4) hX dX0_westSides_4 ?_
  refine V_ldc2 (pc := 5) hX (1152921504606846975) w_279 dX0_westSides_5 ?_
  refine V_land (pc := 8) hX dX0_westSides_8 ?_
  refine V_lret (pc := 9) hX hR dX0_westSides_9 ?_
  exact ⟨rfl, rfl⟩
theorem c_X0_eastSides {E : Le} {l : Launch} {D : Dt} {u v : Int64} : ConL E l yX0_eastSides cX0_eastSides 4 (some .long) 1 [.long u, .long v] D (esL u v) D := by
  refine Con_of (by decide) (Nat.le_of_ble_eq_true rfl) ?_
  intro X hX hR hl; subst hl
  refine V_lload_n (pc := 0) (j := 2) hX 2 rfl rfl dX0_eastSides_0 ?_
  refine V_lload_n (pc := 1) (j := 2) hX 2 rfl rfl dX0_eastSides_1 ?_
  refine V_iconst (pc := 2) (z := 1) hX (oI 1) rfl dX0_eastSides_2 ?_
  refine V_lshl (pc := 3) hX dX0_eastSides_3 ?_
  refine V_lload_n (pc := 4) (j := 0) hX 0 rfl rfl dX0_eastSides_4 ?_
  refine V_bipush (pc := 5) (z := 59) hX (oI 59) (by decide) dX0_eastSides_5 ?_
  refine V_lushr (pc := 7) hX dX0_eastSides_7 ?_
  refine V_lor (pc := 8) hX dX0_eastSides_8 ?_
  refine V_lxor (pc := 9) hX dX0_eastSides_9 ?_
  refine V_lret (pc := 10) hX hR dX0_eastSides_10 ?_
  exact ⟨rfl, rfl⟩
theorem wsL_tb {D : Dt} {z : Fin 11} {A : Cl} (hA : AC D z A) {i k : Nat} (hi : i < 60) (hk : k < 120) : tb (wsL (D.2.1 2 z k)) i = (pd A (i + 1) (k + 1) ^^ pd A i (k + 1)) := by
  rw [wsL, tb_and, tb_xor, show tb ALc i = true from (tb_all i).trans (decide_eq_true hi), Bool.and_true, pd_w hA hi hk, pd_lw hA hi hk]
theorem wsL_60 (w : Int64) : b60 (wsL w) := b60_all _
theorem esL_tb {D : Dt} {z : Fin 11} {A : Cl} (hA : AC D z A) {i k : Nat} (hi : i < 64) (hk : k < 120) : tb (esL (D.2.1 2 z k) (D.2.1 3 z k)) i = (pd A (i + 61) (k + 1) ^^ (decide (i < 61) && pd A (i + 60) (k + 1))) := by
  rw [esL, tb_xor, tb_or]
  by_cases q : i < 60
  · rw [pd_e hA q hk, pd_le hA q hk, decide_eq_true (by omega), Bool.true_and]
  · rw [AC_60e hA hk i (by omega), tb_us _ (by decide), AC_60w hA hk _ (by omega), tb_sl _ (by decide), decide_eq_true hi, decide_eq_true (by omega : 1 ≤ i)]
    have e : pd A (i + 61) (k + 1) = false := by rw [pd, decide_eq_false (by omega), Bool.false_and]
    rw [e]
    by_cases q2 : i = 60
    · subst q2
      rw [pd_e hA (by omega) hk]; simp
    · rw [AC_60e hA hk (i - 1) (by omega), decide_eq_false (by omega)]; rfl
def hsC (S : Cl) (j : Nat) : Nat := fb_ct (fun i => pd S (i + 1) (j + 1) ^^ pd S i (j + 1)) 121
def vsC (S : Cl) (j : Nat) : Nat := fb_ct (fun i => pd S (i + 1) (j + 1) ^^ pd S (i + 1) j) 120
theorem hs_ct {D : Dt} {z : Fin 11} {A : Cl} (hA : AC D z A) {k : Nat} (hk : k < 120) : bct (wsL (D.2.1 2 z k)) + bct (esL (D.2.1 2 z k) (D.2.1 3 z k)) = hsC A k := by
  have e : fb_ct (fun i => tb (esL (D.2.1 2 z k) (D.2.1 3 z k)) (61 + i)) 3 = 0 := fb_ct_zero.mpr (fun i hi => by
    rw [esL_tb hA (by omega) hk, pd, decide_eq_false (by omega), decide_eq_false (by omega)]; rfl)
  rw [bct_60 (wsL_60 _), bct, cnt, show 64 = 61 + 3 from rfl, fb_ct_split, e, Nat.add_zero, hsC, show 121 = 60 + 61 from rfl, fb_ct_split]
  congr 1
  · exact fb_ct_cong (fun i hi => wsL_tb hA hi hk)
  · refine fb_ct_cong (fun i hi => ?_)
    rw [esL_tb hA (by omega) hk, decide_eq_true hi, Bool.true_and, show 60 + i + 1 = i + 61 by omega, Nat.add_comm 60 i]
theorem abV_w {D : Dt} {z : Fin 11} {A : Cl} (hA : AC D z A) {k : Nat} (hk : k < 121) : b60 (abV 0 (D.2.1 2 z) k) ∧ ∀ i, i < 60 → tb (abV 0 (D.2.1 2 z) k) i = pd A (i + 1) k := by
  cases k with
  | zero => exact ⟨b60_0, fun i hi => by rw [pd_j (Or.inl rfl)]; exact tb_0 i⟩
  | succ m => exact ⟨AC_60w hA (by omega), fun i hi => pd_w hA hi (by omega)⟩
theorem abV_e {D : Dt} {z : Fin 11} {A : Cl} (hA : AC D z A) {k : Nat} (hk : k < 121) : b60 (abV 0 (D.2.1 3 z) k) ∧ ∀ i, i < 60 → tb (abV 0 (D.2.1 3 z) k) i = pd A (i + 61) k := by
  cases k with
  | zero => exact ⟨b60_0, fun i hi => by rw [pd_j (Or.inl rfl)]; exact tb_0 i⟩
  | succ m => exact ⟨AC_60e hA (by omega), fun i hi => pd_e hA hi (by omega)⟩
theorem vs_ct {D : Dt} {z : Fin 11} {A : Cl} (hA : AC D z A) {k : Nat} (hk : k < 120) : bct (D.2.1 2 z k ^^^ abV 0 (D.2.1 2 z) k) + bct (D.2.1 3 z k ^^^ abV 0 (D.2.1 3 z) k) = vsC A k := by
  have hw := abV_w hA (k := k) (by omega)
  have he := abV_e hA (k := k) (by omega)
  rw [bct_60 (xor_60 (AC_60w hA hk) hw.1), bct_60 (xor_60 (AC_60e hA hk) he.1), cnt, cnt, vsC, show 120 = 60 + 60 from rfl, fb_ct_split]
  congr 1
  · refine fb_ct_cong (fun i hi => ?_)
    rw [tb_xor, pd_w hA hi hk, hw.2 i hi]
  · refine fb_ct_cong (fun i hi => ?_)
    rw [tb_xor, pd_e hA hi hk, he.2 i hi, show 60 + i + 1 = i + 61 by omega]
theorem vs_last {D : Dt} {z : Fin 11} {A : Cl} (hA : AC D z A) : bct (abV 0 (D.2.1 2 z) 120) + bct (abV 0 (D.2.1 3 z) 120) = vsC A 120 := by
  have hw := abV_w hA (k := 120) (by omega)
  have he := abV_e hA (k := 120) (by omega)
  have hx : ∀ u, pd A u 121 = false := fun u => pd_j (Or.inr (by omega))
  rw [bct_60 hw.1, bct_60 he.1, cnt, cnt, vsC, show 120 = 60 + 60 from rfl, fb_ct_split]
  congr 1
  · refine fb_ct_cong (fun i hi => ?_)
    rw [hw.2 i hi, hx]; simp
  · refine fb_ct_cong (fun i hi => ?_)
    rw [he.2 i hi, hx, show 60 + i + 1 = i + 61 by omega]; simp
theorem ct_sm (p : Nat → Bool) : ∀ n, fb_ct p n = fb_sm (fun i => if p i then 1 else 0) n
  | 0 => rfl
  | n + 1 => by rw [fb_ct_succ, fb_sm_succ, ct_sm p n]
theorem sm_swap (f : Nat → Nat → Nat) (n : Nat) : ∀ m, fb_sm (fun j => fb_sm (fun i => f i j) n) m = fb_sm (fun i => fb_sm (fun j => f i j) m) n
  | 0 => by
    have e : fb_sm (fun i => fb_sm (fun j => f i j) 0) n = fb_sm (fun _ => 0) n := rfl
    rw [e, fb_sm_const]; rfl
  | m + 1 => by
    rw [fb_sm_succ, sm_swap f n m, ← fb_sm_add]; rfl
theorem ct_sides {F : Nat → Bool} (h0 : F 0 = false) : ∀ m, fb_ct (fun i => F (i + 1) ^^ F i) (m + 1) = fb_sm (fun i => if F (i + 1) then nz (F i) + nz (F (i + 2)) else 0) m + (if F (m + 1) && !F m then 1 else 0)
  | 0 => by
    rw [fb_ct_succ, h0]
    show 0 + _ = 0 + _
    cases F (0 + 1) <;> rfl
  | m + 1 => by
    rw [fb_ct_succ, ct_sides h0 m, fb_sm_succ]
    cases F m <;> cases F (m + 1) <;> cases F (m + 1 + 1) <;> simp [nz]
theorem sid_eq (S : Cl) : fb_sm (fun j => vsC S j + hsC S j) 120 + vsC S 120 = sidC S := by
  have e1 : fb_sm (vsC S) 121 = fb_sm (fun j => fb_sm (fun i => if pd S (i + 1) (j + 1) then nz (pd S (i + 1) j) + nz (pd S (i + 1) (j + 2)) else 0) 120) 120 := by
    rw [sm_swap (fun i j => if pd S (i + 1) (j + 1) then nz (pd S (i + 1) j) + nz (pd S (i + 1) (j + 2)) else 0) 120 120]
    have q : fb_sm (vsC S) 121 = fb_sm (fun j => fb_sm (fun i => if (pd S (i + 1) (j + 1) ^^ pd S (i + 1) j) then 1 else 0) 120) 121 := fb_sm_cong (fun j _ => ct_sm _ 120)
    rw [q, sm_swap (fun i j => if (pd S (i + 1) (j + 1) ^^ pd S (i + 1) j) then 1 else 0) 120 121]
    refine fb_sm_cong (fun i _ => ?_)
    have c := ct_sides (F := fun j => pd S (i + 1) j) (pd_j (Or.inl rfl)) 120
    rw [ct_sm] at c
    have hx : pd S (i + 1) 121 = false := pd_j (Or.inr (by omega))
    rw [c, hx, Bool.false_and, if_neg Bool.false_ne_true, Nat.add_zero]
  have e2 : fb_sm (hsC S) 120 = fb_sm (fun j => fb_sm (fun i => if pd S (i + 1) (j + 1) then nz (pd S i (j + 1)) + nz (pd S (i + 2) (j + 1)) else 0) 120) 120 := by
    refine fb_sm_cong (fun j _ => ?_)
    have c := ct_sides (F := fun i => pd S i (j + 1)) (pd_i0 S (j + 1)) 120
    rw [hsC, c, pd_i1 S (j + 1), Bool.false_and, if_neg Bool.false_ne_true, Nat.add_zero]
  rw [fb_sm_succ] at e1
  rw [fb_sm_add, e2, sidC]
  have e3 : fb_sm (fun j => fb_sm (fun i => sd4 S i j) 120) 120 = fb_sm (fun j => fb_sm (fun i => if pd S (i + 1) (j + 1) then nz (pd S (i + 1) j) + nz (pd S (i + 1) (j + 2)) else 0) 120 + fb_sm (fun i => if pd S (i + 1) (j + 1) then nz (pd S i (j + 1)) + nz (pd S (i + 2) (j + 1)) else 0) 120) 120 := by
    refine fb_sm_cong (fun j hj => ?_)
    rw [← fb_sm_add]
    refine fb_sm_cong (fun i hi => ?_)
    rw [sd4, pd_in hi hj]
    split <;> omega
  rw [e3, fb_sm_add]
  omega
theorem c_X0_sidesRound {E : Le} {l : Launch} {D : Dt} {z : Fin 11} {S : Cl} (hA : AC D z S) : ConI E l yX0_sidesRound cX0_sidesRound 11 (some .int) 2 [.ref (E.1 (1, z))] D (oI (sidC S : Int)) D := by
  refine Con_of (by decide) (Nat.le_of_ble_eq_true rfl) ?_
  intro X hX hR hl; subst hl
  have loop : ∀ (m : Nat) (k : Nat), k ≤ 120 → 120 - k < m → Vw E X 11 D 10 [(0, some (.ref (E.1 (1, z)))), (1, some (.int (oI ((fb_sm (fun j => vsC S j + hsC S j) k : Nat) : Int)))), (2, some (.long (abV 0 (D.2.1 2 z) k))), (4, some (.long (abV 0 (D.2.1 3 z) k))), (6, some (.int (oI (k : Int))))] [] := by
    intro m
    induction m with
    | zero => intro k g1 g2; omega
    | succ m ih =>
      intro k g1 g2
      refine V_iload (pc := 10) hX rfl dX0_sidesRound_10 ?_
      refine V_bipush (pc := 12) (z := 120) hX (oI 120) (by decide) dX0_sidesRound_12 ?_
      refine Z_icmp_ge (pc := 14) (tgt := 89) hX (by omega) (by omega) dX0_sidesRound_14 (by decide) (fun h14 => ?_) (fun h14 => ?_)
      · refine V_iload_n (pc := 89) (j := 1) hX 1 rfl rfl dX0_sidesRound_89 ?_
        refine V_lload_n (pc := 90) (j := 2) hX 2 rfl rfl dX0_sidesRound_90 ?_
        refine cSI1 (pc := 91) hX (c_J13_bitCount_95d88) (by decide) st_X0_58 (Nat.le_of_ble_eq_true rfl) dX0_sidesRound_91 ?_
        refine Z_iadd (pc := 94) hX dX0_sidesRound_94 ?_
        refine V_lload (pc := 95) hX rfl dX0_sidesRound_95 ?_
        refine cSI1 (pc := 97) hX (c_J13_bitCount_95d88) (by decide) st_X0_58 (Nat.le_of_ble_eq_true rfl) dX0_sidesRound_97 ?_
        refine Z_iadd (pc := 100) hX dX0_sidesRound_100 ?_
        refine V_iret (pc := 101) hX hR dX0_sidesRound_101 ?_
        have e : k = 120 := by omega
        subst e
        have hv := vs_last hA
        exact ⟨congrArg (fun q => some (Value.int (oI q))) (by rw [← sid_eq S, ← hv]; omega), rfl⟩
      · refine V_aload_n (pc := 17) (j := 0) hX 0 rfl rfl dX0_sidesRound_17 ?_
        refine gf_X0_9 (pc := 18) hX dX0_sidesRound_18 ?_
        refine V_iload (pc := 21) hX rfl dX0_sidesRound_21 ?_
        refine zl_2 (pc := 23) hX (k) (by omega) (by omega) dX0_sidesRound_23 ?_
        refine V_lstore (pc := 24) hX (by decide) rfl dX0_sidesRound_24 ?_
        refine V_aload_n (pc := 26) (j := 0) hX 0 rfl rfl dX0_sidesRound_26 ?_
        refine gf_X0_15 (pc := 27) hX dX0_sidesRound_27 ?_
        refine V_iload (pc := 30) hX rfl dX0_sidesRound_30 ?_
        refine zl_3 (pc := 32) hX (k) (by omega) (by omega) dX0_sidesRound_32 ?_
        refine V_lstore (pc := 33) hX (by decide) rfl dX0_sidesRound_33 ?_
        refine V_iload_n (pc := 35) (j := 1) hX 1 rfl rfl dX0_sidesRound_35 ?_
        refine V_lload (pc := 36) hX rfl dX0_sidesRound_36 ?_
        refine V_lload_n (pc := 38) (j := 2) hX 2 rfl rfl dX0_sidesRound_38 ?_
        refine V_lxor (pc := 39) hX dX0_sidesRound_39 ?_
        refine cSI1 (pc := 40) hX (c_J13_bitCount_95d88) (by decide) st_X0_58 (Nat.le_of_ble_eq_true rfl) dX0_sidesRound_40 ?_
        refine V_lload (pc := 43) hX rfl dX0_sidesRound_43 ?_
        refine V_lload (pc := 45) hX rfl dX0_sidesRound_45 ?_
        refine V_lxor (pc := 47) hX dX0_sidesRound_47 ?_
        refine cSI1 (pc := 48) hX (c_J13_bitCount_95d88) (by decide) st_X0_58 (Nat.le_of_ble_eq_true rfl) dX0_sidesRound_48 ?_
        refine Z_iadd (pc := 51) hX dX0_sidesRound_51 ?_
        refine Z_iadd (pc := 52) hX dX0_sidesRound_52 ?_
        refine V_istore_n (pc := 53) (j := 1) hX 1 rfl (by decide) rfl dX0_sidesRound_53 ?_
        refine V_iload_n (pc := 54) (j := 1) hX 1 rfl rfl dX0_sidesRound_54 ?_
        refine V_lload (pc := 55) hX rfl dX0_sidesRound_55 ?_
        refine cSL1 (pc := 57) hX (c_X0_westSides) (by decide) st_X0_68 (Nat.le_of_ble_eq_true rfl) dX0_sidesRound_57 ?_
        refine cSI1 (pc := 60) hX (c_J13_bitCount_95d88) (by decide) st_X0_58 (Nat.le_of_ble_eq_true rfl) dX0_sidesRound_60 ?_
        refine V_lload (pc := 63) hX rfl dX0_sidesRound_63 ?_
        refine V_lload (pc := 65) hX rfl dX0_sidesRound_65 ?_
        refine cSL2 (pc := 67) hX (c_X0_eastSides) (by decide) st_X0_72 (Nat.le_of_ble_eq_true rfl) dX0_sidesRound_67 ?_
        refine cSI1 (pc := 70) hX (c_J13_bitCount_95d88) (by decide) st_X0_58 (Nat.le_of_ble_eq_true rfl) dX0_sidesRound_70 ?_
        refine Z_iadd (pc := 73) hX dX0_sidesRound_73 ?_
        refine Z_iadd (pc := 74) hX dX0_sidesRound_74 ?_
        refine V_istore_n (pc := 75) (j := 1) hX 1 rfl (by decide) rfl dX0_sidesRound_75 ?_
        refine V_lload (pc := 76) hX rfl dX0_sidesRound_76 ?_
        refine V_lstore_n (pc := 78) (j := 2) hX 2 rfl (by decide) rfl dX0_sidesRound_78 ?_
        refine V_lload (pc := 79) hX rfl dX0_sidesRound_79 ?_
        refine V_lstore (pc := 81) hX (by decide) rfl dX0_sidesRound_81 ?_
        refine Z_iinc (pc := 83) hX 1 rfl rfl dX0_sidesRound_83 ?_
        refine V_goto (pc := 86) (off := (-76)) (tgt := 10) hX (by decide) dX0_sidesRound_86 ?_
        have hv := vs_ct hA (k := k) (by omega)
        have hh := hs_ct hA (k := k) (by omega)
        refine V_cut [(0, some (.ref (E.1 (1, z)))), (1, some (.int (oI ((fb_sm (fun j => vsC S j + hsC S j) (k + 1) : Nat) : Int)))), (2, some (.long (abV 0 (D.2.1 2 z) (k + 1)))), (4, some (.long (abV 0 (D.2.1 3 z) (k + 1)))), (6, some (.int (oI ((k + 1 : Nat) : Int))))] ⟨rfl, congrArg (fun q => some (Value.int (oI q))) (by rw [fb_sm_succ, ← hv, ← hh]; omega), rfl, rfl, rfl, trivial⟩ ?_
        exact ih (k + 1) (by omega) (by omega)
  refine V_iconst (pc := 0) (z := 0) hX (oI 0) rfl dX0_sidesRound_0 ?_
  refine V_istore_n (pc := 1) (j := 1) hX 1 rfl (by decide) rfl dX0_sidesRound_1 ?_
  refine V_lconst (pc := 2) (z := 0) hX 0 (by decide) dX0_sidesRound_2 ?_
  refine V_lstore_n (pc := 3) (j := 2) hX 2 rfl (by decide) rfl dX0_sidesRound_3 ?_
  refine V_lconst (pc := 4) (z := 0) hX 0 (by decide) dX0_sidesRound_4 ?_
  refine V_lstore (pc := 5) hX (by decide) rfl dX0_sidesRound_5 ?_
  refine V_iconst (pc := 7) (z := 0) hX (oI 0) rfl dX0_sidesRound_7 ?_
  refine V_istore (pc := 8) hX (by decide) rfl dX0_sidesRound_8 ?_
  refine V_cut [(0, some (.ref (E.1 (1, z)))), (1, some (.int (oI ((0 : Nat) : Int)))), (2, some (.long (abV 0 (D.2.1 2 z) 0))), (4, some (.long (abV 0 (D.2.1 3 z) 0))), (6, some (.int (oI ((0 : Nat) : Int))))] ⟨rfl, rfl, rfl, rfl, rfl, trivial⟩ ?_
  exact loop 121 0 (by omega) (by omega)
