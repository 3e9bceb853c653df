/-! how many sides the ray from a cell crosses -/
def nxC (n k : Nat) : Nat := if k + 1 < n then k + 1 else 0
def farC (xk yk xj yj x y : Int) : Int := (2 * xk - 2 * x - 1) * (yj - yk) + (2 * y + 1 - 2 * yk) * (xj - xk)
abbrev crP (xk yk xj yj x y : Int) : Prop := ¬ (yk ≤ y ↔ yj ≤ y) ∧ (0 < yj - yk ↔ 0 < farC xk yk xj yj x y) ∧ ¬ farC xk yk xj yj x y = 0
def crB (n : Nat) (xs ys : Nat → Int) (x y : Int) (k : Nat) : Bool := decide (crP (xs k) (ys k) (xs (nxC n k)) (ys (nxC n k)) x y)
theorem crB_t {n : Nat} {xs ys : Nat → Int} {x y : Int} {k : Nat} : crB n xs ys x y k = true ↔ crP (xs k) (ys k) (xs (nxC n k)) (ys (nxC n k)) x y := decide_eq_true_iff
theorem mul_bd {p q : Int} {P Q : Int} (hp : -P ≤ p ∧ p ≤ P) (hq : -Q ≤ q ∧ q ≤ Q) : -(P * Q) ≤ p * q ∧ p * q ≤ P * Q := by
  have hP : 0 ≤ P := by omega
  have hQ : 0 ≤ Q := by omega
  have a1 : 0 ≤ (P - p) * (Q + q) := Int.mul_nonneg (by omega) (by omega)
  have a2 : 0 ≤ (P + p) * (Q - q) := Int.mul_nonneg (by omega) (by omega)
  have a3 : 0 ≤ (P - p) * (Q - q) := Int.mul_nonneg (by omega) (by omega)
  have a4 : 0 ≤ (P + p) * (Q + q) := Int.mul_nonneg (by omega) (by omega)
  simp only [Int.sub_mul, Int.add_mul, Int.mul_sub, Int.mul_add] at a1 a2 a3 a4
  constructor <;> omega
theorem c_X6_crossed {E : Le} {l : Launch} {D : Dt} {σ : AS} {x y : Int} (hx : -60 ≤ x ∧ x ≤ 59) (hy : -60 ≤ y ∧ y ≤ 59) (hM : Mst D σ) : ConI E l yX6_crossed cX6_crossed 8 (some .int) 1 [.ref (E.1 (20, 0)), .int (oI x), .int (oI y)] D (oI ((fb_ct (crB σ.2.2.2.1 σ.2.2.2.2.1 σ.2.2.2.2.2 x y) σ.2.2.2.1 : Nat) : Int)) D := by
  refine Con_of (by decide) (Nat.le_of_ble_eq_true rfl) ?_
  intro X hX hR hl; subst hl
  have h10 := hM.2.2.2.1.2.1
  have loop : ∀ (m : Nat) (k : Nat), k ≤ σ.2.2.2.1 → σ.2.2.2.1 - k < m → Vw E X 8 D 5 [(0, some (.ref (E.1 (20, 0)))), (1, some (.int (oI x))), (2, some (.int (oI y))), (3, some (.int (oI ((fb_ct (crB σ.2.2.2.1 σ.2.2.2.2.1 σ.2.2.2.2.2 x y) k : Nat) : Int)))), (4, some (.int (oI (k : Int))))] [] := by
    intro m
    induction m with
    | zero => intro k g1 g2; omega
    | succ m ih =>
      intro k g1 g2
      refine V_iload (pc := 5) hX rfl dX6_crossed_5 ?_
      refine V_aload_n (pc := 7) (j := 0) hX 0 rfl rfl dX6_crossed_7 ?_
      refine gf_X6_156 (pc := 8) hX dX6_crossed_8 ?_
      refine V_oI (σ.2.2.2.1 : Int) hM.2.2.2.1.1 ?_
      refine Z_icmp_ge (pc := 11) (tgt := 181) hX (by omega) (by omega) dX6_crossed_11 (by decide) (fun h11 => ?_) (fun h11 => ?_)
      · refine V_iload_n (pc := 181) (j := 3) hX 3 rfl rfl dX6_crossed_181 ?_
        refine V_iret (pc := 182) hX hR dX6_crossed_182 ?_
        have e : k = σ.2.2.2.1 := by omega
        subst e
        exact ⟨rfl, rfl⟩
      · refine V_iload (pc := 14) hX rfl dX6_crossed_14 ?_
        refine V_iconst (pc := 16) (z := 1) hX (oI 1) rfl dX6_crossed_16 ?_
        refine Z_iadd (pc := 17) hX dX6_crossed_17 ?_
        refine V_aload_n (pc := 18) (j := 0) hX 0 rfl rfl dX6_crossed_18 ?_
        refine gf_X6_156 (pc := 19) hX dX6_crossed_19 ?_
        refine V_oI (σ.2.2.2.1 : Int) hM.2.2.2.1.1 ?_
        refine Z_icmp_ge (pc := 22) (tgt := 32) hX (by omega) (by omega) dX6_crossed_22 (by decide) (fun h22 => ?_) (fun h22 => ?_)
        · refine V_iconst (pc := 32) (z := 0) hX (oI 0) rfl dX6_crossed_32 ?_
          have hj : nxC σ.2.2.2.1 k = 0 := if_neg (by omega)
          have hjl : nxC σ.2.2.2.1 k < σ.2.2.2.1 := by omega
          refine V_oI (((nxC σ.2.2.2.1 k : Nat)) : Int) (by rw [hj]; rfl) ?_
          refine V_istore (pc := 33) hX (by decide) rfl dX6_crossed_33 ?_
          have hyk := (hM.2.2.2.1.2.2 k (by omega)).2.2
          have hyj := (hM.2.2.2.1.2.2 (nxC σ.2.2.2.1 k) (by omega)).2.2
          refine V_aload_n (pc := 35) (j := 0) hX 0 rfl rfl dX6_crossed_35 ?_
          refine gf_X6_23 (pc := 36) hX dX6_crossed_36 ?_
          refine V_iload (pc := 39) hX rfl dX6_crossed_39 ?_
          refine zl_25 (pc := 41) hX ((nxC σ.2.2.2.1 k)) (rfl) (by omega) dX6_crossed_41 ?_
          refine V_oI (σ.2.2.2.2.2 (nxC σ.2.2.2.1 k)) (hM.2.2.2.1.2.2 (nxC σ.2.2.2.1 k) (by omega)).2.1 ?_
          refine V_aload_n (pc := 42) (j := 0) hX 0 rfl rfl dX6_crossed_42 ?_
          refine gf_X6_23 (pc := 43) hX dX6_crossed_43 ?_
          refine V_iload (pc := 46) hX rfl dX6_crossed_46 ?_
          refine zl_25 (pc := 48) hX _ rfl (by omega) dX6_crossed_48 ?_
          refine V_oI (σ.2.2.2.2.2 k) (hM.2.2.2.1.2.2 k (by omega)).2.1 ?_
          refine Z_isub (pc := 49) hX dX6_crossed_49 ?_
          refine V_istore (pc := 50) hX (by decide) rfl dX6_crossed_50 ?_
          refine V_aload_n (pc := 52) (j := 0) hX 0 rfl rfl dX6_crossed_52 ?_
          refine gf_X6_23 (pc := 53) hX dX6_crossed_53 ?_
          refine V_iload (pc := 56) hX rfl dX6_crossed_56 ?_
          refine zl_25 (pc := 58) hX _ rfl (by omega) dX6_crossed_58 ?_
          refine V_oI (σ.2.2.2.2.2 k) (hM.2.2.2.1.2.2 k (by omega)).2.1 ?_
          refine V_iload_n (pc := 59) (j := 2) hX 2 rfl rfl dX6_crossed_59 ?_
          refine Z_icmp_gt (pc := 60) (tgt := 67) hX (by omega) (by omega) dX6_crossed_60 (by decide) (fun h60 => ?_) (fun h60 => ?_)
          · refine V_iconst (pc := 67) (z := 0) hX (oI 0) rfl dX6_crossed_67 ?_
            refine V_aload_n (pc := 68) (j := 0) hX 0 rfl rfl dX6_crossed_68 ?_
            refine gf_X6_23 (pc := 69) hX dX6_crossed_69 ?_
            refine V_iload (pc := 72) hX rfl dX6_crossed_72 ?_
            refine zl_25 (pc := 74) hX ((nxC σ.2.2.2.1 k)) (rfl) (by omega) dX6_crossed_74 ?_
            refine V_oI (σ.2.2.2.2.2 (nxC σ.2.2.2.1 k)) (hM.2.2.2.1.2.2 (nxC σ.2.2.2.1 k) (by omega)).2.1 ?_
            refine V_iload_n (pc := 75) (j := 2) hX 2 rfl rfl dX6_crossed_75 ?_
            refine Z_icmp_gt (pc := 76) (tgt := 83) hX (by omega) (by omega) dX6_crossed_76 (by decide) (fun h76 => ?_) (fun h76 => ?_)
            · refine V_iconst (pc := 83) (z := 0) hX (oI 0) rfl dX6_crossed_83 ?_
              refine Z_icmp_eq (pc := 84) (tgt := 175) hX (by omega) (by omega) dX6_crossed_84 (by decide) (fun _ => ?_) (fun h => absurd h (by decide))
              refine Z_iinc (pc := 175) hX 1 rfl rfl dX6_crossed_175 ?_
              refine V_goto (pc := 178) (off := (-173)) (tgt := 5) hX (by decide) dX6_crossed_178 ?_
              have hc : crB σ.2.2.2.1 σ.2.2.2.2.1 σ.2.2.2.2.2 x y k = false := Bool.eq_false_iff.mpr (fun q => (crB_t.mp q).1 (by omega))
              refine V_cut [(0, some (.ref (E.1 (20, 0)))), (1, some (.int (oI x))), (2, some (.int (oI y))), (3, some (.int (oI ((fb_ct (crB σ.2.2.2.1 σ.2.2.2.2.1 σ.2.2.2.2.2 x y) (k + 1) : Nat) : Int)))), (4, some (.int (oI ((k + 1 : Nat) : Int))))] ⟨rfl, rfl, rfl, congrArg (fun q => some (Value.int (oI q))) (by rw [fb_ct_succ, hc]; simp), rfl, trivial⟩ ?_
              exact ih (k + 1) (by omega) (by omega)
            · refine V_iconst (pc := 79) (z := 1) hX (oI 1) rfl dX6_crossed_79 ?_
              refine V_goto (pc := 80) (off := 4) (tgt := 84) hX (by decide) dX6_crossed_80 ?_
              refine Z_icmp_eq (pc := 84) (tgt := 175) hX (by omega) (by omega) dX6_crossed_84 (by decide) (fun h => absurd h (by decide)) (fun _ => ?_)
              refine V_iconst (pc := 87) (z := 2) hX (oI 2) rfl dX6_crossed_87 ?_
              refine V_aload_n (pc := 88) (j := 0) hX 0 rfl rfl dX6_crossed_88 ?_
              refine gf_X6_20 (pc := 89) hX dX6_crossed_89 ?_
              refine V_iload (pc := 92) hX rfl dX6_crossed_92 ?_
              refine zl_24 (pc := 94) hX _ rfl (by omega) dX6_crossed_94 ?_
              refine V_oI (σ.2.2.2.2.1 k) (hM.2.2.2.1.2.2 k (by omega)).1.1 ?_
              refine Z_imul (pc := 95) hX dX6_crossed_95 ?_
              refine V_iconst (pc := 96) (z := 2) hX (oI 2) rfl dX6_crossed_96 ?_
              refine V_iload_n (pc := 97) (j := 1) hX 1 rfl rfl dX6_crossed_97 ?_
              refine Z_imul (pc := 98) hX dX6_crossed_98 ?_
              refine Z_isub (pc := 99) hX dX6_crossed_99 ?_
              refine V_iconst (pc := 100) (z := 1) hX (oI 1) rfl dX6_crossed_100 ?_
              refine Z_isub (pc := 101) hX dX6_crossed_101 ?_
              refine V_iload (pc := 102) hX rfl dX6_crossed_102 ?_
              refine Z_imul (pc := 104) hX dX6_crossed_104 ?_
              refine V_iconst (pc := 105) (z := 2) hX (oI 2) rfl dX6_crossed_105 ?_
              refine V_iload_n (pc := 106) (j := 2) hX 2 rfl rfl dX6_crossed_106 ?_
              refine Z_imul (pc := 107) hX dX6_crossed_107 ?_
              refine V_iconst (pc := 108) (z := 1) hX (oI 1) rfl dX6_crossed_108 ?_
              refine Z_iadd (pc := 109) hX dX6_crossed_109 ?_
              refine V_iconst (pc := 110) (z := 2) hX (oI 2) rfl dX6_crossed_110 ?_
              refine V_aload_n (pc := 111) (j := 0) hX 0 rfl rfl dX6_crossed_111 ?_
              refine gf_X6_23 (pc := 112) hX dX6_crossed_112 ?_
              refine V_iload (pc := 115) hX rfl dX6_crossed_115 ?_
              refine zl_25 (pc := 117) hX _ rfl (by omega) dX6_crossed_117 ?_
              refine V_oI (σ.2.2.2.2.2 k) (hM.2.2.2.1.2.2 k (by omega)).2.1 ?_
              refine Z_imul (pc := 118) hX dX6_crossed_118 ?_
              refine Z_isub (pc := 119) hX dX6_crossed_119 ?_
              refine V_aload_n (pc := 120) (j := 0) hX 0 rfl rfl dX6_crossed_120 ?_
              refine gf_X6_20 (pc := 121) hX dX6_crossed_121 ?_
              refine V_iload (pc := 124) hX rfl dX6_crossed_124 ?_
              refine zl_24 (pc := 126) hX ((nxC σ.2.2.2.1 k)) (rfl) (by omega) dX6_crossed_126 ?_
              refine V_oI (σ.2.2.2.2.1 (nxC σ.2.2.2.1 k)) (hM.2.2.2.1.2.2 (nxC σ.2.2.2.1 k) (by omega)).1.1 ?_
              refine V_aload_n (pc := 127) (j := 0) hX 0 rfl rfl dX6_crossed_127 ?_
              refine gf_X6_20 (pc := 128) hX dX6_crossed_128 ?_
              refine V_iload (pc := 131) hX rfl dX6_crossed_131 ?_
              refine zl_24 (pc := 133) hX _ rfl (by omega) dX6_crossed_133 ?_
              refine V_oI (σ.2.2.2.2.1 k) (hM.2.2.2.1.2.2 k (by omega)).1.1 ?_
              refine Z_isub (pc := 134) hX dX6_crossed_134 ?_
              refine Z_imul (pc := 135) hX dX6_crossed_135 ?_
              refine Z_iadd (pc := 136) hX dX6_crossed_136 ?_
              have m1 := mul_bd (p := 2 * σ.2.2.2.2.1 k - 2 * x - 1) (q := σ.2.2.2.2.2 (nxC σ.2.2.2.1 k) - σ.2.2.2.2.2 k) (P := 241) (Q := 120) (by have := (hM.2.2.2.1.2.2 k (by omega)).1; omega) (by have := (hM.2.2.2.1.2.2 k (by omega)).2; have := (hM.2.2.2.1.2.2 (nxC σ.2.2.2.1 k) (by omega)).2; omega)
              have m2 := mul_bd (p := 2 * y + 1 - 2 * σ.2.2.2.2.2 k) (q := σ.2.2.2.2.1 (nxC σ.2.2.2.1 k) - σ.2.2.2.2.1 k) (P := 241) (Q := 120) (by have := (hM.2.2.2.1.2.2 k (by omega)).2; omega) (by have := (hM.2.2.2.1.2.2 k (by omega)).1; have := (hM.2.2.2.1.2.2 (nxC σ.2.2.2.1 k) (by omega)).1; omega)
              have hfar : farC (σ.2.2.2.2.1 k) (σ.2.2.2.2.2 k) (σ.2.2.2.2.1 (nxC σ.2.2.2.1 k)) (σ.2.2.2.2.2 (nxC σ.2.2.2.1 k)) x y = (2 * σ.2.2.2.2.1 k - 2 * x - 1) * (σ.2.2.2.2.2 (nxC σ.2.2.2.1 k) - σ.2.2.2.2.2 k) + (2 * y + 1 - 2 * σ.2.2.2.2.2 k) * (σ.2.2.2.2.1 (nxC σ.2.2.2.1 k) - σ.2.2.2.2.1 k) := rfl
              refine V_oI (farC (σ.2.2.2.2.1 k) (σ.2.2.2.2.2 k) (σ.2.2.2.2.1 (nxC σ.2.2.2.1 k)) (σ.2.2.2.2.2 (nxC σ.2.2.2.1 k)) x y) rfl ?_
              refine V_istore (pc := 137) hX (by decide) rfl dX6_crossed_137 ?_
              refine V_iload_n (pc := 139) (j := 3) hX 3 rfl rfl dX6_crossed_139 ?_
              refine V_iload (pc := 140) hX rfl dX6_crossed_140 ?_
              refine Z_if_le (pc := 142) (tgt := 149) hX (by omega) dX6_crossed_142 (by decide) (fun h142 => ?_) (fun h142 => ?_)
              · refine V_iconst (pc := 149) (z := 0) hX (oI 0) rfl dX6_crossed_149 ?_
                refine V_iload (pc := 150) hX rfl dX6_crossed_150 ?_
                refine Z_if_le (pc := 152) (tgt := 159) hX (by omega) dX6_crossed_152 (by decide) (fun h152 => ?_) (fun h152 => ?_)
                · refine V_iconst (pc := 159) (z := 0) hX (oI 0) rfl dX6_crossed_159 ?_
                  refine Z_icmp_ne (pc := 160) (tgt := 172) hX (by omega) (by omega) dX6_crossed_160 (by decide) (fun h => absurd h (by decide)) (fun _ => ?_)
                  refine V_iload (pc := 163) hX rfl dX6_crossed_163 ?_
                  refine Z_if_eq (pc := 165) (tgt := 172) hX (by omega) dX6_crossed_165 (by decide) (fun h165 => ?_) (fun h165 => ?_)
                  · refine V_iconst (pc := 172) (z := 0) hX (oI 0) rfl dX6_crossed_172 ?_
                    refine Z_iadd (pc := 173) hX dX6_crossed_173 ?_
                    refine V_istore_n (pc := 174) (j := 3) hX 3 rfl (by decide) rfl dX6_crossed_174 ?_
                    refine Z_iinc (pc := 175) hX 1 rfl rfl dX6_crossed_175 ?_
                    refine V_goto (pc := 178) (off := (-173)) (tgt := 5) hX (by decide) dX6_crossed_178 ?_
                    have hc : crB σ.2.2.2.1 σ.2.2.2.2.1 σ.2.2.2.2.2 x y k = false := Bool.eq_false_iff.mpr (fun q => by have := (crB_t.mp q).2.1; have := (crB_t.mp q).2.2; omega)
                    refine V_cut [(0, some (.ref (E.1 (20, 0)))), (1, some (.int (oI x))), (2, some (.int (oI y))), (3, some (.int (oI ((fb_ct (crB σ.2.2.2.1 σ.2.2.2.2.1 σ.2.2.2.2.2 x y) (k + 1) : Nat) : Int)))), (4, some (.int (oI ((k + 1 : Nat) : Int))))] ⟨rfl, rfl, rfl, congrArg (fun q => some (Value.int (oI q))) (by rw [fb_ct_succ, hc]; simp), rfl, trivial⟩ ?_
                    exact ih (k + 1) (by omega) (by omega)
                  · refine V_iconst (pc := 168) (z := 1) hX (oI 1) rfl dX6_crossed_168 ?_
                    refine V_goto (pc := 169) (off := 4) (tgt := 173) hX (by decide) dX6_crossed_169 ?_
                    refine Z_iadd (pc := 173) hX dX6_crossed_173 ?_
                    refine V_istore_n (pc := 174) (j := 3) hX 3 rfl (by decide) rfl dX6_crossed_174 ?_
                    refine Z_iinc (pc := 175) hX 1 rfl rfl dX6_crossed_175 ?_
                    refine V_goto (pc := 178) (off := (-173)) (tgt := 5) hX (by decide) dX6_crossed_178 ?_
                    have hc : crB σ.2.2.2.1 σ.2.2.2.2.1 σ.2.2.2.2.2 x y k = true := crB_t.mpr ⟨by omega, by omega, by omega⟩
                    refine V_cut [(0, some (.ref (E.1 (20, 0)))), (1, some (.int (oI x))), (2, some (.int (oI y))), (3, some (.int (oI ((fb_ct (crB σ.2.2.2.1 σ.2.2.2.2.1 σ.2.2.2.2.2 x y) (k + 1) : Nat) : Int)))), (4, some (.int (oI ((k + 1 : Nat) : Int))))] ⟨rfl, rfl, rfl, congrArg (fun q => some (Value.int (oI q))) (by rw [fb_ct_succ, hc]; simp), rfl, trivial⟩ ?_
                    exact ih (k + 1) (by omega) (by omega)
                · refine V_iconst (pc := 155) (z := 1) hX (oI 1) rfl dX6_crossed_155 ?_
                  refine V_goto (pc := 156) (off := 4) (tgt := 160) hX (by decide) dX6_crossed_156 ?_
                  refine Z_icmp_ne (pc := 160) (tgt := 172) hX (by omega) (by omega) dX6_crossed_160 (by decide) (fun _ => ?_) (fun h => absurd h (by decide))
                  refine V_iconst (pc := 172) (z := 0) hX (oI 0) rfl dX6_crossed_172 ?_
                  refine Z_iadd (pc := 173) hX dX6_crossed_173 ?_
                  refine V_istore_n (pc := 174) (j := 3) hX 3 rfl (by decide) rfl dX6_crossed_174 ?_
                  refine Z_iinc (pc := 175) hX 1 rfl rfl dX6_crossed_175 ?_
                  refine V_goto (pc := 178) (off := (-173)) (tgt := 5) hX (by decide) dX6_crossed_178 ?_
                  have hc : crB σ.2.2.2.1 σ.2.2.2.2.1 σ.2.2.2.2.2 x y k = false := Bool.eq_false_iff.mpr (fun q => by have := (crB_t.mp q).2.1; have := (crB_t.mp q).2.2; omega)
                  refine V_cut [(0, some (.ref (E.1 (20, 0)))), (1, some (.int (oI x))), (2, some (.int (oI y))), (3, some (.int (oI ((fb_ct (crB σ.2.2.2.1 σ.2.2.2.2.1 σ.2.2.2.2.2 x y) (k + 1) : Nat) : Int)))), (4, some (.int (oI ((k + 1 : Nat) : Int))))] ⟨rfl, rfl, rfl, congrArg (fun q => some (Value.int (oI q))) (by rw [fb_ct_succ, hc]; simp), rfl, trivial⟩ ?_
                  exact ih (k + 1) (by omega) (by omega)
              · refine V_iconst (pc := 145) (z := 1) hX (oI 1) rfl dX6_crossed_145 ?_
                refine V_goto (pc := 146) (off := 4) (tgt := 150) hX (by decide) dX6_crossed_146 ?_
                refine V_iload (pc := 150) hX rfl dX6_crossed_150 ?_
                refine Z_if_le (pc := 152) (tgt := 159) hX (by omega) dX6_crossed_152 (by decide) (fun h152 => ?_) (fun h152 => ?_)
                · refine V_iconst (pc := 159) (z := 0) hX (oI 0) rfl dX6_crossed_159 ?_
                  refine Z_icmp_ne (pc := 160) (tgt := 172) hX (by omega) (by omega) dX6_crossed_160 (by decide) (fun _ => ?_) (fun h => absurd h (by decide))
                  refine V_iconst (pc := 172) (z := 0) hX (oI 0) rfl dX6_crossed_172 ?_
                  refine Z_iadd (pc := 173) hX dX6_crossed_173 ?_
                  refine V_istore_n (pc := 174) (j := 3) hX 3 rfl (by decide) rfl dX6_crossed_174 ?_
                  refine Z_iinc (pc := 175) hX 1 rfl rfl dX6_crossed_175 ?_
                  refine V_goto (pc := 178) (off := (-173)) (tgt := 5) hX (by decide) dX6_crossed_178 ?_
                  have hc : crB σ.2.2.2.1 σ.2.2.2.2.1 σ.2.2.2.2.2 x y k = false := Bool.eq_false_iff.mpr (fun q => by have := (crB_t.mp q).2.1; have := (crB_t.mp q).2.2; omega)
                  refine V_cut [(0, some (.ref (E.1 (20, 0)))), (1, some (.int (oI x))), (2, some (.int (oI y))), (3, some (.int (oI ((fb_ct (crB σ.2.2.2.1 σ.2.2.2.2.1 σ.2.2.2.2.2 x y) (k + 1) : Nat) : Int)))), (4, some (.int (oI ((k + 1 : Nat) : Int))))] ⟨rfl, rfl, rfl, congrArg (fun q => some (Value.int (oI q))) (by rw [fb_ct_succ, hc]; simp), rfl, trivial⟩ ?_
                  exact ih (k + 1) (by omega) (by omega)
                · refine V_iconst (pc := 155) (z := 1) hX (oI 1) rfl dX6_crossed_155 ?_
                  refine V_goto (pc := 156) (off := 4) (tgt := 160) hX (by decide) dX6_crossed_156 ?_
                  refine Z_icmp_ne (pc := 160) (tgt := 172) hX (by omega) (by omega) dX6_crossed_160 (by decide) (fun h => absurd h (by decide)) (fun _ => ?_)
                  refine V_iload (pc := 163) hX rfl dX6_crossed_163 ?_
                  refine Z_if_eq (pc := 165) (tgt := 172) hX (by omega) dX6_crossed_165 (by decide) (fun h165 => ?_) (fun h165 => ?_)
                  · refine V_iconst (pc := 172) (z := 0) hX (oI 0) rfl dX6_crossed_172 ?_
                    refine Z_iadd (pc := 173) hX dX6_crossed_173 ?_
                    refine V_istore_n (pc := 174) (j := 3) hX 3 rfl (by decide) rfl dX6_crossed_174 ?_
                    refine Z_iinc (pc := 175) hX 1 rfl rfl dX6_crossed_175 ?_
                    refine V_goto (pc := 178) (off := (-173)) (tgt := 5) hX (by decide) dX6_crossed_178 ?_
                    have hc : crB σ.2.2.2.1 σ.2.2.2.2.1 σ.2.2.2.2.2 x y k = false := Bool.eq_false_iff.mpr (fun q => by have := (crB_t.mp q).2.1; have := (crB_t.mp q).2.2; omega)
                    refine V_cut [(0, some (.ref (E.1 (20, 0)))), (1, some (.int (oI x))), (2, some (.int (oI y))), (3, some (.int (oI ((fb_ct (crB σ.2.2.2.1 σ.2.2.2.2.1 σ.2.2.2.2.2 x y) (k + 1) : Nat) : Int)))), (4, some (.int (oI ((k + 1 : Nat) : Int))))] ⟨rfl, rfl, rfl, congrArg (fun q => some (Value.int (oI q))) (by rw [fb_ct_succ, hc]; simp), rfl, trivial⟩ ?_
                    exact ih (k + 1) (by omega) (by omega)
                  · refine V_iconst (pc := 168) (z := 1) hX (oI 1) rfl dX6_crossed_168 ?_
                    refine V_goto (pc := 169) (off := 4) (tgt := 173) hX (by decide) dX6_crossed_169 ?_
                    refine Z_iadd (pc := 173) hX dX6_crossed_173 ?_
                    refine V_istore_n (pc := 174) (j := 3) hX 3 rfl (by decide) rfl dX6_crossed_174 ?_
                    refine Z_iinc (pc := 175) hX 1 rfl rfl dX6_crossed_175 ?_
                    refine V_goto (pc := 178) (off := (-173)) (tgt := 5) hX (by decide) dX6_crossed_178 ?_
                    have hc : crB σ.2.2.2.1 σ.2.2.2.2.1 σ.2.2.2.2.2 x y k = true := crB_t.mpr ⟨by omega, by omega, by omega⟩
                    refine V_cut [(0, some (.ref (E.1 (20, 0)))), (1, some (.int (oI x))), (2, some (.int (oI y))), (3, some (.int (oI ((fb_ct (crB σ.2.2.2.1 σ.2.2.2.2.1 σ.2.2.2.2.2 x y) (k + 1) : Nat) : Int)))), (4, some (.int (oI ((k + 1 : Nat) : Int))))] ⟨rfl, rfl, rfl, congrArg (fun q => some (Value.int (oI q))) (by rw [fb_ct_succ, hc]; simp), rfl, trivial⟩ ?_
                    exact ih (k + 1) (by omega) (by omega)
          · refine V_iconst (pc := 63) (z := 1) hX (oI 1) rfl dX6_crossed_63 ?_
            refine V_goto (pc := 64) (off := 4) (tgt := 68) hX (by decide) dX6_crossed_64 ?_
            refine V_aload_n (pc := 68) (j := 0) hX 0 rfl rfl dX6_crossed_68 ?_
            refine gf_X6_23 (pc := 69) hX dX6_crossed_69 ?_
            refine V_iload (pc := 72) hX rfl dX6_crossed_72 ?_
            refine zl_25 (pc := 74) hX ((nxC σ.2.2.2.1 k)) (rfl) (by omega) dX6_crossed_74 ?_
            refine V_oI (σ.2.2.2.2.2 (nxC σ.2.2.2.1 k)) (hM.2.2.2.1.2.2 (nxC σ.2.2.2.1 k) (by omega)).2.1 ?_
            refine V_iload_n (pc := 75) (j := 2) hX 2 rfl rfl dX6_crossed_75 ?_
            refine Z_icmp_gt (pc := 76) (tgt := 83) hX (by omega) (by omega) dX6_crossed_76 (by decide) (fun h76 => ?_) (fun h76 => ?_)
            · refine V_iconst (pc := 83) (z := 0) hX (oI 0) rfl dX6_crossed_83 ?_
              refine Z_icmp_eq (pc := 84) (tgt := 175) hX (by omega) (by omega) dX6_crossed_84 (by decide) (fun h => absurd h (by decide)) (fun _ => ?_)
              refine V_iconst (pc := 87) (z := 2) hX (oI 2) rfl dX6_crossed_87 ?_
              refine V_aload_n (pc := 88) (j := 0) hX 0 rfl rfl dX6_crossed_88 ?_
              refine gf_X6_20 (pc := 89) hX dX6_crossed_89 ?_
              refine V_iload (pc := 92) hX rfl dX6_crossed_92 ?_
              refine zl_24 (pc := 94) hX _ rfl (by omega) dX6_crossed_94 ?_
              refine V_oI (σ.2.2.2.2.1 k) (hM.2.2.2.1.2.2 k (by omega)).1.1 ?_
              refine Z_imul (pc := 95) hX dX6_crossed_95 ?_
              refine V_iconst (pc := 96) (z := 2) hX (oI 2) rfl dX6_crossed_96 ?_
              refine V_iload_n (pc := 97) (j := 1) hX 1 rfl rfl dX6_crossed_97 ?_
              refine Z_imul (pc := 98) hX dX6_crossed_98 ?_
              refine Z_isub (pc := 99) hX dX6_crossed_99 ?_
              refine V_iconst (pc := 100) (z := 1) hX (oI 1) rfl dX6_crossed_100 ?_
              refine Z_isub (pc := 101) hX dX6_crossed_101 ?_
              refine V_iload (pc := 102) hX rfl dX6_crossed_102 ?_
              refine Z_imul (pc := 104) hX dX6_crossed_104 ?_
              refine V_iconst (pc := 105) (z := 2) hX (oI 2) rfl dX6_crossed_105 ?_
              refine V_iload_n (pc := 106) (j := 2) hX 2 rfl rfl dX6_crossed_106 ?_
              refine Z_imul (pc := 107) hX dX6_crossed_107 ?_
              refine V_iconst (pc := 108) (z := 1) hX (oI 1) rfl dX6_crossed_108 ?_
              refine Z_iadd (pc := 109) hX dX6_crossed_109 ?_
              refine V_iconst (pc := 110) (z := 2) hX (oI 2) rfl dX6_crossed_110 ?_
              refine V_aload_n (pc := 111) (j := 0) hX 0 rfl rfl dX6_crossed_111 ?_
              refine gf_X6_23 (pc := 112) hX dX6_crossed_112 ?_
              refine V_iload (pc := 115) hX rfl dX6_crossed_115 ?_
              refine zl_25 (pc := 117) hX _ rfl (by omega) dX6_crossed_117 ?_
              refine V_oI (σ.2.2.2.2.2 k) (hM.2.2.2.1.2.2 k (by omega)).2.1 ?_
              refine Z_imul (pc := 118) hX dX6_crossed_118 ?_
              refine Z_isub (pc := 119) hX dX6_crossed_119 ?_
              refine V_aload_n (pc := 120) (j := 0) hX 0 rfl rfl dX6_crossed_120 ?_
              refine gf_X6_20 (pc := 121) hX dX6_crossed_121 ?_
              refine V_iload (pc := 124) hX rfl dX6_crossed_124 ?_
              refine zl_24 (pc := 126) hX ((nxC σ.2.2.2.1 k)) (rfl) (by omega) dX6_crossed_126 ?_
              refine V_oI (σ.2.2.2.2.1 (nxC σ.2.2.2.1 k)) (hM.2.2.2.1.2.2 (nxC σ.2.2.2.1 k) (by omega)).1.1 ?_
              refine V_aload_n (pc := 127) (j := 0) hX 0 rfl rfl dX6_crossed_127 ?_
              refine gf_X6_20 (pc := 128) hX dX6_crossed_128 ?_
              refine V_iload (pc := 131) hX rfl dX6_crossed_131 ?_
              refine zl_24 (pc := 133) hX _ rfl (by omega) dX6_crossed_133 ?_
              refine V_oI (σ.2.2.2.2.1 k) (hM.2.2.2.1.2.2 k (by omega)).1.1 ?_
              refine Z_isub (pc := 134) hX dX6_crossed_134 ?_
              refine Z_imul (pc := 135) hX dX6_crossed_135 ?_
              refine Z_iadd (pc := 136) hX dX6_crossed_136 ?_
              have m1 := mul_bd (p := 2 * σ.2.2.2.2.1 k - 2 * x - 1) (q := σ.2.2.2.2.2 (nxC σ.2.2.2.1 k) - σ.2.2.2.2.2 k) (P := 241) (Q := 120) (by have := (hM.2.2.2.1.2.2 k (by omega)).1; omega) (by have := (hM.2.2.2.1.2.2 k (by omega)).2; have := (hM.2.2.2.1.2.2 (nxC σ.2.2.2.1 k) (by omega)).2; omega)
              have m2 := mul_bd (p := 2 * y + 1 - 2 * σ.2.2.2.2.2 k) (q := σ.2.2.2.2.1 (nxC σ.2.2.2.1 k) - σ.2.2.2.2.1 k) (P := 241) (Q := 120) (by have := (hM.2.2.2.1.2.2 k (by omega)).2; omega) (by have := (hM.2.2.2.1.2.2 k (by omega)).1; have := (hM.2.2.2.1.2.2 (nxC σ.2.2.2.1 k) (by omega)).1; omega)
              have hfar : farC (σ.2.2.2.2.1 k) (σ.2.2.2.2.2 k) (σ.2.2.2.2.1 (nxC σ.2.2.2.1 k)) (σ.2.2.2.2.2 (nxC σ.2.2.2.1 k)) x y = (2 * σ.2.2.2.2.1 k - 2 * x - 1) * (σ.2.2.2.2.2 (nxC σ.2.2.2.1 k) - σ.2.2.2.2.2 k) + (2 * y + 1 - 2 * σ.2.2.2.2.2 k) * (σ.2.2.2.2.1 (nxC σ.2.2.2.1 k) - σ.2.2.2.2.1 k) := rfl
              refine V_oI (farC (σ.2.2.2.2.1 k) (σ.2.2.2.2.2 k) (σ.2.2.2.2.1 (nxC σ.2.2.2.1 k)) (σ.2.2.2.2.2 (nxC σ.2.2.2.1 k)) x y) rfl ?_
              refine V_istore (pc := 137) hX (by decide) rfl dX6_crossed_137 ?_
              refine V_iload_n (pc := 139) (j := 3) hX 3 rfl rfl dX6_crossed_139 ?_
              refine V_iload (pc := 140) hX rfl dX6_crossed_140 ?_
              refine Z_if_le (pc := 142) (tgt := 149) hX (by omega) dX6_crossed_142 (by decide) (fun h142 => ?_) (fun h142 => ?_)
              · refine V_iconst (pc := 149) (z := 0) hX (oI 0) rfl dX6_crossed_149 ?_
                refine V_iload (pc := 150) hX rfl dX6_crossed_150 ?_
                refine Z_if_le (pc := 152) (tgt := 159) hX (by omega) dX6_crossed_152 (by decide) (fun h152 => ?_) (fun h152 => ?_)
                · refine V_iconst (pc := 159) (z := 0) hX (oI 0) rfl dX6_crossed_159 ?_
                  refine Z_icmp_ne (pc := 160) (tgt := 172) hX (by omega) (by omega) dX6_crossed_160 (by decide) (fun h => absurd h (by decide)) (fun _ => ?_)
                  refine V_iload (pc := 163) hX rfl dX6_crossed_163 ?_
                  refine Z_if_eq (pc := 165) (tgt := 172) hX (by omega) dX6_crossed_165 (by decide) (fun h165 => ?_) (fun h165 => ?_)
                  · refine V_iconst (pc := 172) (z := 0) hX (oI 0) rfl dX6_crossed_172 ?_
                    refine Z_iadd (pc := 173) hX dX6_crossed_173 ?_
                    refine V_istore_n (pc := 174) (j := 3) hX 3 rfl (by decide) rfl dX6_crossed_174 ?_
                    refine Z_iinc (pc := 175) hX 1 rfl rfl dX6_crossed_175 ?_
                    refine V_goto (pc := 178) (off := (-173)) (tgt := 5) hX (by decide) dX6_crossed_178 ?_
                    have hc : crB σ.2.2.2.1 σ.2.2.2.2.1 σ.2.2.2.2.2 x y k = false := Bool.eq_false_iff.mpr (fun q => by have := (crB_t.mp q).2.1; have := (crB_t.mp q).2.2; omega)
                    refine V_cut [(0, some (.ref (E.1 (20, 0)))), (1, some (.int (oI x))), (2, some (.int (oI y))), (3, some (.int (oI ((fb_ct (crB σ.2.2.2.1 σ.2.2.2.2.1 σ.2.2.2.2.2 x y) (k + 1) : Nat) : Int)))), (4, some (.int (oI ((k + 1 : Nat) : Int))))] ⟨rfl, rfl, rfl, congrArg (fun q => some (Value.int (oI q))) (by rw [fb_ct_succ, hc]; simp), rfl, trivial⟩ ?_
                    exact ih (k + 1) (by omega) (by omega)
                  · refine V_iconst (pc := 168) (z := 1) hX (oI 1) rfl dX6_crossed_168 ?_
                    refine V_goto (pc := 169) (off := 4) (tgt := 173) hX (by decide) dX6_crossed_169 ?_
                    refine Z_iadd (pc := 173) hX dX6_crossed_173 ?_
                    refine V_istore_n (pc := 174) (j := 3) hX 3 rfl (by decide) rfl dX6_crossed_174 ?_
                    refine Z_iinc (pc := 175) hX 1 rfl rfl dX6_crossed_175 ?_
                    refine V_goto (pc := 178) (off := (-173)) (tgt := 5) hX (by decide) dX6_crossed_178 ?_
                    have hc : crB σ.2.2.2.1 σ.2.2.2.2.1 σ.2.2.2.2.2 x y k = true := crB_t.mpr ⟨by omega, by omega, by omega⟩
                    refine V_cut [(0, some (.ref (E.1 (20, 0)))), (1, some (.int (oI x))), (2, some (.int (oI y))), (3, some (.int (oI ((fb_ct (crB σ.2.2.2.1 σ.2.2.2.2.1 σ.2.2.2.2.2 x y) (k + 1) : Nat) : Int)))), (4, some (.int (oI ((k + 1 : Nat) : Int))))] ⟨rfl, rfl, rfl, congrArg (fun q => some (Value.int (oI q))) (by rw [fb_ct_succ, hc]; simp), rfl, trivial⟩ ?_
                    exact ih (k + 1) (by omega) (by omega)
                · refine V_iconst (pc := 155) (z := 1) hX (oI 1) rfl dX6_crossed_155 ?_
                  refine V_goto (pc := 156) (off := 4) (tgt := 160) hX (by decide) dX6_crossed_156 ?_
                  refine Z_icmp_ne (pc := 160) (tgt := 172) hX (by omega) (by omega) dX6_crossed_160 (by decide) (fun _ => ?_) (fun h => absurd h (by decide))
                  refine V_iconst (pc := 172) (z := 0) hX (oI 0) rfl dX6_crossed_172 ?_
                  refine Z_iadd (pc := 173) hX dX6_crossed_173 ?_
                  refine V_istore_n (pc := 174) (j := 3) hX 3 rfl (by decide) rfl dX6_crossed_174 ?_
                  refine Z_iinc (pc := 175) hX 1 rfl rfl dX6_crossed_175 ?_
                  refine V_goto (pc := 178) (off := (-173)) (tgt := 5) hX (by decide) dX6_crossed_178 ?_
                  have hc : crB σ.2.2.2.1 σ.2.2.2.2.1 σ.2.2.2.2.2 x y k = false := Bool.eq_false_iff.mpr (fun q => by have := (crB_t.mp q).2.1; have := (crB_t.mp q).2.2; omega)
                  refine V_cut [(0, some (.ref (E.1 (20, 0)))), (1, some (.int (oI x))), (2, some (.int (oI y))), (3, some (.int (oI ((fb_ct (crB σ.2.2.2.1 σ.2.2.2.2.1 σ.2.2.2.2.2 x y) (k + 1) : Nat) : Int)))), (4, some (.int (oI ((k + 1 : Nat) : Int))))] ⟨rfl, rfl, rfl, congrArg (fun q => some (Value.int (oI q))) (by rw [fb_ct_succ, hc]; simp), rfl, trivial⟩ ?_
                  exact ih (k + 1) (by omega) (by omega)
              · refine V_iconst (pc := 145) (z := 1) hX (oI 1) rfl dX6_crossed_145 ?_
                refine V_goto (pc := 146) (off := 4) (tgt := 150) hX (by decide) dX6_crossed_146 ?_
                refine V_iload (pc := 150) hX rfl dX6_crossed_150 ?_
                refine Z_if_le (pc := 152) (tgt := 159) hX (by omega) dX6_crossed_152 (by decide) (fun h152 => ?_) (fun h152 => ?_)
                · refine V_iconst (pc := 159) (z := 0) hX (oI 0) rfl dX6_crossed_159 ?_
                  refine Z_icmp_ne (pc := 160) (tgt := 172) hX (by omega) (by omega) dX6_crossed_160 (by decide) (fun _ => ?_) (fun h => absurd h (by decide))
                  refine V_iconst (pc := 172) (z := 0) hX (oI 0) rfl dX6_crossed_172 ?_
                  refine Z_iadd (pc := 173) hX dX6_crossed_173 ?_
                  refine V_istore_n (pc := 174) (j := 3) hX 3 rfl (by decide) rfl dX6_crossed_174 ?_
                  refine Z_iinc (pc := 175) hX 1 rfl rfl dX6_crossed_175 ?_
                  refine V_goto (pc := 178) (off := (-173)) (tgt := 5) hX (by decide) dX6_crossed_178 ?_
                  have hc : crB σ.2.2.2.1 σ.2.2.2.2.1 σ.2.2.2.2.2 x y k = false := Bool.eq_false_iff.mpr (fun q => by have := (crB_t.mp q).2.1; have := (crB_t.mp q).2.2; omega)
                  refine V_cut [(0, some (.ref (E.1 (20, 0)))), (1, some (.int (oI x))), (2, some (.int (oI y))), (3, some (.int (oI ((fb_ct (crB σ.2.2.2.1 σ.2.2.2.2.1 σ.2.2.2.2.2 x y) (k + 1) : Nat) : Int)))), (4, some (.int (oI ((k + 1 : Nat) : Int))))] ⟨rfl, rfl, rfl, congrArg (fun q => some (Value.int (oI q))) (by rw [fb_ct_succ, hc]; simp), rfl, trivial⟩ ?_
                  exact ih (k + 1) (by omega) (by omega)
                · refine V_iconst (pc := 155) (z := 1) hX (oI 1) rfl dX6_crossed_155 ?_
                  refine V_goto (pc := 156) (off := 4) (tgt := 160) hX (by decide) dX6_crossed_156 ?_
                  refine Z_icmp_ne (pc := 160) (tgt := 172) hX (by omega) (by omega) dX6_crossed_160 (by decide) (fun h => absurd h (by decide)) (fun _ => ?_)
                  refine V_iload (pc := 163) hX rfl dX6_crossed_163 ?_
                  refine Z_if_eq (pc := 165) (tgt := 172) hX (by omega) dX6_crossed_165 (by decide) (fun h165 => ?_) (fun h165 => ?_)
                  · refine V_iconst (pc := 172) (z := 0) hX (oI 0) rfl dX6_crossed_172 ?_
                    refine Z_iadd (pc := 173) hX dX6_crossed_173 ?_
                    refine V_istore_n (pc := 174) (j := 3) hX 3 rfl (by decide) rfl dX6_crossed_174 ?_
                    refine Z_iinc (pc := 175) hX 1 rfl rfl dX6_crossed_175 ?_
                    refine V_goto (pc := 178) (off := (-173)) (tgt := 5) hX (by decide) dX6_crossed_178 ?_
                    have hc : crB σ.2.2.2.1 σ.2.2.2.2.1 σ.2.2.2.2.2 x y k = false := Bool.eq_false_iff.mpr (fun q => by have := (crB_t.mp q).2.1; have := (crB_t.mp q).2.2; omega)
                    refine V_cut [(0, some (.ref (E.1 (20, 0)))), (1, some (.int (oI x))), (2, some (.int (oI y))), (3, some (.int (oI ((fb_ct (crB σ.2.2.2.1 σ.2.2.2.2.1 σ.2.2.2.2.2 x y) (k + 1) : Nat) : Int)))), (4, some (.int (oI ((k + 1 : Nat) : Int))))] ⟨rfl, rfl, rfl, congrArg (fun q => some (Value.int (oI q))) (by rw [fb_ct_succ, hc]; simp), rfl, trivial⟩ ?_
                    exact ih (k + 1) (by omega) (by omega)
                  · refine V_iconst (pc := 168) (z := 1) hX (oI 1) rfl dX6_crossed_168 ?_
                    refine V_goto (pc := 169) (off := 4) (tgt := 173) hX (by decide) dX6_crossed_169 ?_
                    refine Z_iadd (pc := 173) hX dX6_crossed_173 ?_
                    refine V_istore_n (pc := 174) (j := 3) hX 3 rfl (by decide) rfl dX6_crossed_174 ?_
                    refine Z_iinc (pc := 175) hX 1 rfl rfl dX6_crossed_175 ?_
                    refine V_goto (pc := 178) (off := (-173)) (tgt := 5) hX (by decide) dX6_crossed_178 ?_
                    have hc : crB σ.2.2.2.1 σ.2.2.2.2.1 σ.2.2.2.2.2 x y k = true := crB_t.mpr ⟨by omega, by omega, by omega⟩
                    refine V_cut [(0, some (.ref (E.1 (20, 0)))), (1, some (.int (oI x))), (2, some (.int (oI y))), (3, some (.int (oI ((fb_ct (crB σ.2.2.2.1 σ.2.2.2.2.1 σ.2.2.2.2.2 x y) (k + 1) : Nat) : Int)))), (4, some (.int (oI ((k + 1 : Nat) : Int))))] ⟨rfl, rfl, rfl, congrArg (fun q => some (Value.int (oI q))) (by rw [fb_ct_succ, hc]; simp), rfl, trivial⟩ ?_
                    exact ih (k + 1) (by omega) (by omega)
            · refine V_iconst (pc := 79) (z := 1) hX (oI 1) rfl dX6_crossed_79 ?_
              refine V_goto (pc := 80) (off := 4) (tgt := 84) hX (by decide) dX6_crossed_80 ?_
              refine Z_icmp_eq (pc := 84) (tgt := 175) hX (by omega) (by omega) dX6_crossed_84 (by decide) (fun _ => ?_) (fun h => absurd h (by decide))
              refine Z_iinc (pc := 175) hX 1 rfl rfl dX6_crossed_175 ?_
              refine V_goto (pc := 178) (off := (-173)) (tgt := 5) hX (by decide) dX6_crossed_178 ?_
              have hc : crB σ.2.2.2.1 σ.2.2.2.2.1 σ.2.2.2.2.2 x y k = false := Bool.eq_false_iff.mpr (fun q => (crB_t.mp q).1 (by omega))
              refine V_cut [(0, some (.ref (E.1 (20, 0)))), (1, some (.int (oI x))), (2, some (.int (oI y))), (3, some (.int (oI ((fb_ct (crB σ.2.2.2.1 σ.2.2.2.2.1 σ.2.2.2.2.2 x y) (k + 1) : Nat) : Int)))), (4, some (.int (oI ((k + 1 : Nat) : Int))))] ⟨rfl, rfl, rfl, congrArg (fun q => some (Value.int (oI q))) (by rw [fb_ct_succ, hc]; simp), rfl, trivial⟩ ?_
              exact ih (k + 1) (by omega) (by omega)
        · refine V_iload (pc := 25) hX rfl dX6_crossed_25 ?_
          refine V_iconst (pc := 27) (z := 1) hX (oI 1) rfl dX6_crossed_27 ?_
          refine Z_iadd (pc := 28) hX dX6_crossed_28 ?_
          refine V_goto (pc := 29) (off := 4) (tgt := 33) hX (by decide) dX6_crossed_29 ?_
          have hj : nxC σ.2.2.2.1 k = k + 1 := if_pos (by omega)
          have hjl : nxC σ.2.2.2.1 k < σ.2.2.2.1 := by omega
          refine V_oI (((nxC σ.2.2.2.1 k : Nat)) : Int) (by rw [hj]; rfl) ?_
          refine V_istore (pc := 33) hX (by decide) rfl dX6_crossed_33 ?_
          have hyk := (hM.2.2.2.1.2.2 k (by omega)).2.2
          have hyj := (hM.2.2.2.1.2.2 (nxC σ.2.2.2.1 k) (by omega)).2.2
          refine V_aload_n (pc := 35) (j := 0) hX 0 rfl rfl dX6_crossed_35 ?_
          refine gf_X6_23 (pc := 36) hX dX6_crossed_36 ?_
          refine V_iload (pc := 39) hX rfl dX6_crossed_39 ?_
          refine zl_25 (pc := 41) hX ((nxC σ.2.2.2.1 k)) (rfl) (by omega) dX6_crossed_41 ?_
          refine V_oI (σ.2.2.2.2.2 (nxC σ.2.2.2.1 k)) (hM.2.2.2.1.2.2 (nxC σ.2.2.2.1 k) (by omega)).2.1 ?_
          refine V_aload_n (pc := 42) (j := 0) hX 0 rfl rfl dX6_crossed_42 ?_
          refine gf_X6_23 (pc := 43) hX dX6_crossed_43 ?_
          refine V_iload (pc := 46) hX rfl dX6_crossed_46 ?_
          refine zl_25 (pc := 48) hX _ rfl (by omega) dX6_crossed_48 ?_
          refine V_oI (σ.2.2.2.2.2 k) (hM.2.2.2.1.2.2 k (by omega)).2.1 ?_
          refine Z_isub (pc := 49) hX dX6_crossed_49 ?_
          refine V_istore (pc := 50) hX (by decide) rfl dX6_crossed_50 ?_
          refine V_aload_n (pc := 52) (j := 0) hX 0 rfl rfl dX6_crossed_52 ?_
          refine gf_X6_23 (pc := 53) hX dX6_crossed_53 ?_
          refine V_iload (pc := 56) hX rfl dX6_crossed_56 ?_
          refine zl_25 (pc := 58) hX _ rfl (by omega) dX6_crossed_58 ?_
          refine V_oI (σ.2.2.2.2.2 k) (hM.2.2.2.1.2.2 k (by omega)).2.1 ?_
          refine V_iload_n (pc := 59) (j := 2) hX 2 rfl rfl dX6_crossed_59 ?_
          refine Z_icmp_gt (pc := 60) (tgt := 67) hX (by omega) (by omega) dX6_crossed_60 (by decide) (fun h60 => ?_) (fun h60 => ?_)
          · refine V_iconst (pc := 67) (z := 0) hX (oI 0) rfl dX6_crossed_67 ?_
            refine V_aload_n (pc := 68) (j := 0) hX 0 rfl rfl dX6_crossed_68 ?_
            refine gf_X6_23 (pc := 69) hX dX6_crossed_69 ?_
            refine V_iload (pc := 72) hX rfl dX6_crossed_72 ?_
            refine zl_25 (pc := 74) hX ((nxC σ.2.2.2.1 k)) (rfl) (by omega) dX6_crossed_74 ?_
            refine V_oI (σ.2.2.2.2.2 (nxC σ.2.2.2.1 k)) (hM.2.2.2.1.2.2 (nxC σ.2.2.2.1 k) (by omega)).2.1 ?_
            refine V_iload_n (pc := 75) (j := 2) hX 2 rfl rfl dX6_crossed_75 ?_
            refine Z_icmp_gt (pc := 76) (tgt := 83) hX (by omega) (by omega) dX6_crossed_76 (by decide) (fun h76 => ?_) (fun h76 => ?_)
            · refine V_iconst (pc := 83) (z := 0) hX (oI 0) rfl dX6_crossed_83 ?_
              refine Z_icmp_eq (pc := 84) (tgt := 175) hX (by omega) (by omega) dX6_crossed_84 (by decide) (fun _ => ?_) (fun h => absurd h (by decide))
              refine Z_iinc (pc := 175) hX 1 rfl rfl dX6_crossed_175 ?_
              refine V_goto (pc := 178) (off := (-173)) (tgt := 5) hX (by decide) dX6_crossed_178 ?_
              have hc : crB σ.2.2.2.1 σ.2.2.2.2.1 σ.2.2.2.2.2 x y k = false := Bool.eq_false_iff.mpr (fun q => (crB_t.mp q).1 (by omega))
              refine V_cut [(0, some (.ref (E.1 (20, 0)))), (1, some (.int (oI x))), (2, some (.int (oI y))), (3, some (.int (oI ((fb_ct (crB σ.2.2.2.1 σ.2.2.2.2.1 σ.2.2.2.2.2 x y) (k + 1) : Nat) : Int)))), (4, some (.int (oI ((k + 1 : Nat) : Int))))] ⟨rfl, rfl, rfl, congrArg (fun q => some (Value.int (oI q))) (by rw [fb_ct_succ, hc]; simp), rfl, trivial⟩ ?_
              exact ih (k + 1) (by omega) (by omega)
            · refine V_iconst (pc := 79) (z := 1) hX (oI 1) rfl dX6_crossed_79 ?_
              refine V_goto (pc := 80) (off := 4) (tgt := 84) hX (by decide) dX6_crossed_80 ?_
              refine Z_icmp_eq (pc := 84) (tgt := 175) hX (by omega) (by omega) dX6_crossed_84 (by decide) (fun h => absurd h (by decide)) (fun _ => ?_)
              refine V_iconst (pc := 87) (z := 2) hX (oI 2) rfl dX6_crossed_87 ?_
              refine V_aload_n (pc := 88) (j := 0) hX 0 rfl rfl dX6_crossed_88 ?_
              refine gf_X6_20 (pc := 89) hX dX6_crossed_89 ?_
              refine V_iload (pc := 92) hX rfl dX6_crossed_92 ?_
              refine zl_24 (pc := 94) hX _ rfl (by omega) dX6_crossed_94 ?_
              refine V_oI (σ.2.2.2.2.1 k) (hM.2.2.2.1.2.2 k (by omega)).1.1 ?_
              refine Z_imul (pc := 95) hX dX6_crossed_95 ?_
              refine V_iconst (pc := 96) (z := 2) hX (oI 2) rfl dX6_crossed_96 ?_
              refine V_iload_n (pc := 97) (j := 1) hX 1 rfl rfl dX6_crossed_97 ?_
              refine Z_imul (pc := 98) hX dX6_crossed_98 ?_
              refine Z_isub (pc := 99) hX dX6_crossed_99 ?_
              refine V_iconst (pc := 100) (z := 1) hX (oI 1) rfl dX6_crossed_100 ?_
              refine Z_isub (pc := 101) hX dX6_crossed_101 ?_
              refine V_iload (pc := 102) hX rfl dX6_crossed_102 ?_
              refine Z_imul (pc := 104) hX dX6_crossed_104 ?_
              refine V_iconst (pc := 105) (z := 2) hX (oI 2) rfl dX6_crossed_105 ?_
              refine V_iload_n (pc := 106) (j := 2) hX 2 rfl rfl dX6_crossed_106 ?_
              refine Z_imul (pc := 107) hX dX6_crossed_107 ?_
              refine V_iconst (pc := 108) (z := 1) hX (oI 1) rfl dX6_crossed_108 ?_
              refine Z_iadd (pc := 109) hX dX6_crossed_109 ?_
              refine V_iconst (pc := 110) (z := 2) hX (oI 2) rfl dX6_crossed_110 ?_
              refine V_aload_n (pc := 111) (j := 0) hX 0 rfl rfl dX6_crossed_111 ?_
              refine gf_X6_23 (pc := 112) hX dX6_crossed_112 ?_
              refine V_iload (pc := 115) hX rfl dX6_crossed_115 ?_
              refine zl_25 (pc := 117) hX _ rfl (by omega) dX6_crossed_117 ?_
              refine V_oI (σ.2.2.2.2.2 k) (hM.2.2.2.1.2.2 k (by omega)).2.1 ?_
              refine Z_imul (pc := 118) hX dX6_crossed_118 ?_
              refine Z_isub (pc := 119) hX dX6_crossed_119 ?_
              refine V_aload_n (pc := 120) (j := 0) hX 0 rfl rfl dX6_crossed_120 ?_
              refine gf_X6_20 (pc := 121) hX dX6_crossed_121 ?_
              refine V_iload (pc := 124) hX rfl dX6_crossed_124 ?_
              refine zl_24 (pc := 126) hX ((nxC σ.2.2.2.1 k)) (rfl) (by omega) dX6_crossed_126 ?_
              refine V_oI (σ.2.2.2.2.1 (nxC σ.2.2.2.1 k)) (hM.2.2.2.1.2.2 (nxC σ.2.2.2.1 k) (by omega)).1.1 ?_
              refine V_aload_n (pc := 127) (j := 0) hX 0 rfl rfl dX6_crossed_127 ?_
              refine gf_X6_20 (pc := 128) hX dX6_crossed_128 ?_
              refine V_iload (pc := 131) hX rfl dX6_crossed_131 ?_
              refine zl_24 (pc := 133) hX _ rfl (by omega) dX6_crossed_133 ?_
              refine V_oI (σ.2.2.2.2.1 k) (hM.2.2.2.1.2.2 k (by omega)).1.1 ?_
              refine Z_isub (pc := 134) hX dX6_crossed_134 ?_
              refine Z_imul (pc := 135) hX dX6_crossed_135 ?_
              refine Z_iadd (pc := 136) hX dX6_crossed_136 ?_
              have m1 := mul_bd (p := 2 * σ.2.2.2.2.1 k - 2 * x - 1) (q := σ.2.2.2.2.2 (nxC σ.2.2.2.1 k) - σ.2.2.2.2.2 k) (P := 241) (Q := 120) (by have := (hM.2.2.2.1.2.2 k (by omega)).1; omega) (by have := (hM.2.2.2.1.2.2 k (by omega)).2; have := (hM.2.2.2.1.2.2 (nxC σ.2.2.2.1 k) (by omega)).2; omega)
              have m2 := mul_bd (p := 2 * y + 1 - 2 * σ.2.2.2.2.2 k) (q := σ.2.2.2.2.1 (nxC σ.2.2.2.1 k) - σ.2.2.2.2.1 k) (P := 241) (Q := 120) (by have := (hM.2.2.2.1.2.2 k (by omega)).2; omega) (by have := (hM.2.2.2.1.2.2 k (by omega)).1; have := (hM.2.2.2.1.2.2 (nxC σ.2.2.2.1 k) (by omega)).1; omega)
              have hfar : farC (σ.2.2.2.2.1 k) (σ.2.2.2.2.2 k) (σ.2.2.2.2.1 (nxC σ.2.2.2.1 k)) (σ.2.2.2.2.2 (nxC σ.2.2.2.1 k)) x y = (2 * σ.2.2.2.2.1 k - 2 * x - 1) * (σ.2.2.2.2.2 (nxC σ.2.2.2.1 k) - σ.2.2.2.2.2 k) + (2 * y + 1 - 2 * σ.2.2.2.2.2 k) * (σ.2.2.2.2.1 (nxC σ.2.2.2.1 k) - σ.2.2.2.2.1 k) := rfl
              refine V_oI (farC (σ.2.2.2.2.1 k) (σ.2.2.2.2.2 k) (σ.2.2.2.2.1 (nxC σ.2.2.2.1 k)) (σ.2.2.2.2.2 (nxC σ.2.2.2.1 k)) x y) rfl ?_
              refine V_istore (pc := 137) hX (by decide) rfl dX6_crossed_137 ?_
              refine V_iload_n (pc := 139) (j := 3) hX 3 rfl rfl dX6_crossed_139 ?_
              refine V_iload (pc := 140) hX rfl dX6_crossed_140 ?_
              refine Z_if_le (pc := 142) (tgt := 149) hX (by omega) dX6_crossed_142 (by decide) (fun h142 => ?_) (fun h142 => ?_)
              · refine V_iconst (pc := 149) (z := 0) hX (oI 0) rfl dX6_crossed_149 ?_
                refine V_iload (pc := 150) hX rfl dX6_crossed_150 ?_
                refine Z_if_le (pc := 152) (tgt := 159) hX (by omega) dX6_crossed_152 (by decide) (fun h152 => ?_) (fun h152 => ?_)
                · refine V_iconst (pc := 159) (z := 0) hX (oI 0) rfl dX6_crossed_159 ?_
                  refine Z_icmp_ne (pc := 160) (tgt := 172) hX (by omega) (by omega) dX6_crossed_160 (by decide) (fun h => absurd h (by decide)) (fun _ => ?_)
                  refine V_iload (pc := 163) hX rfl dX6_crossed_163 ?_
                  refine Z_if_eq (pc := 165) (tgt := 172) hX (by omega) dX6_crossed_165 (by decide) (fun h165 => ?_) (fun h165 => ?_)
                  · refine V_iconst (pc := 172) (z := 0) hX (oI 0) rfl dX6_crossed_172 ?_
                    refine Z_iadd (pc := 173) hX dX6_crossed_173 ?_
                    refine V_istore_n (pc := 174) (j := 3) hX 3 rfl (by decide) rfl dX6_crossed_174 ?_
                    refine Z_iinc (pc := 175) hX 1 rfl rfl dX6_crossed_175 ?_
                    refine V_goto (pc := 178) (off := (-173)) (tgt := 5) hX (by decide) dX6_crossed_178 ?_
                    have hc : crB σ.2.2.2.1 σ.2.2.2.2.1 σ.2.2.2.2.2 x y k = false := Bool.eq_false_iff.mpr (fun q => by have := (crB_t.mp q).2.1; have := (crB_t.mp q).2.2; omega)
                    refine V_cut [(0, some (.ref (E.1 (20, 0)))), (1, some (.int (oI x))), (2, some (.int (oI y))), (3, some (.int (oI ((fb_ct (crB σ.2.2.2.1 σ.2.2.2.2.1 σ.2.2.2.2.2 x y) (k + 1) : Nat) : Int)))), (4, some (.int (oI ((k + 1 : Nat) : Int))))] ⟨rfl, rfl, rfl, congrArg (fun q => some (Value.int (oI q))) (by rw [fb_ct_succ, hc]; simp), rfl, trivial⟩ ?_
                    exact ih (k + 1) (by omega) (by omega)
                  · refine V_iconst (pc := 168) (z := 1) hX (oI 1) rfl dX6_crossed_168 ?_
                    refine V_goto (pc := 169) (off := 4) (tgt := 173) hX (by decide) dX6_crossed_169 ?_
                    refine Z_iadd (pc := 173) hX dX6_crossed_173 ?_
                    refine V_istore_n (pc := 174) (j := 3) hX 3 rfl (by decide) rfl dX6_crossed_174 ?_
                    refine Z_iinc (pc := 175) hX 1 rfl rfl dX6_crossed_175 ?_
                    refine V_goto (pc := 178) (off := (-173)) (tgt := 5) hX (by decide) dX6_crossed_178 ?_
                    have hc : crB σ.2.2.2.1 σ.2.2.2.2.1 σ.2.2.2.2.2 x y k = true := crB_t.mpr ⟨by omega, by omega, by omega⟩
                    refine V_cut [(0, some (.ref (E.1 (20, 0)))), (1, some (.int (oI x))), (2, some (.int (oI y))), (3, some (.int (oI ((fb_ct (crB σ.2.2.2.1 σ.2.2.2.2.1 σ.2.2.2.2.2 x y) (k + 1) : Nat) : Int)))), (4, some (.int (oI ((k + 1 : Nat) : Int))))] ⟨rfl, rfl, rfl, congrArg (fun q => some (Value.int (oI q))) (by rw [fb_ct_succ, hc]; simp), rfl, trivial⟩ ?_
                    exact ih (k + 1) (by omega) (by omega)
                · refine V_iconst (pc := 155) (z := 1) hX (oI 1) rfl dX6_crossed_155 ?_
                  refine V_goto (pc := 156) (off := 4) (tgt := 160) hX (by decide) dX6_crossed_156 ?_
                  refine Z_icmp_ne (pc := 160) (tgt := 172) hX (by omega) (by omega) dX6_crossed_160 (by decide) (fun _ => ?_) (fun h => absurd h (by decide))
                  refine V_iconst (pc := 172) (z := 0) hX (oI 0) rfl dX6_crossed_172 ?_
                  refine Z_iadd (pc := 173) hX dX6_crossed_173 ?_
                  refine V_istore_n (pc := 174) (j := 3) hX 3 rfl (by decide) rfl dX6_crossed_174 ?_
                  refine Z_iinc (pc := 175) hX 1 rfl rfl dX6_crossed_175 ?_
                  refine V_goto (pc := 178) (off := (-173)) (tgt := 5) hX (by decide) dX6_crossed_178 ?_
                  have hc : crB σ.2.2.2.1 σ.2.2.2.2.1 σ.2.2.2.2.2 x y k = false := Bool.eq_false_iff.mpr (fun q => by have := (crB_t.mp q).2.1; have := (crB_t.mp q).2.2; omega)
                  refine V_cut [(0, some (.ref (E.1 (20, 0)))), (1, some (.int (oI x))), (2, some (.int (oI y))), (3, some (.int (oI ((fb_ct (crB σ.2.2.2.1 σ.2.2.2.2.1 σ.2.2.2.2.2 x y) (k + 1) : Nat) : Int)))), (4, some (.int (oI ((k + 1 : Nat) : Int))))] ⟨rfl, rfl, rfl, congrArg (fun q => some (Value.int (oI q))) (by rw [fb_ct_succ, hc]; simp), rfl, trivial⟩ ?_
                  exact ih (k + 1) (by omega) (by omega)
              · refine V_iconst (pc := 145) (z := 1) hX (oI 1) rfl dX6_crossed_145 ?_
                refine V_goto (pc := 146) (off := 4) (tgt := 150) hX (by decide) dX6_crossed_146 ?_
                refine V_iload (pc := 150) hX rfl dX6_crossed_150 ?_
                refine Z_if_le (pc := 152) (tgt := 159) hX (by omega) dX6_crossed_152 (by decide) (fun h152 => ?_) (fun h152 => ?_)
                · refine V_iconst (pc := 159) (z := 0) hX (oI 0) rfl dX6_crossed_159 ?_
                  refine Z_icmp_ne (pc := 160) (tgt := 172) hX (by omega) (by omega) dX6_crossed_160 (by decide) (fun _ => ?_) (fun h => absurd h (by decide))
                  refine V_iconst (pc := 172) (z := 0) hX (oI 0) rfl dX6_crossed_172 ?_
                  refine Z_iadd (pc := 173) hX dX6_crossed_173 ?_
                  refine V_istore_n (pc := 174) (j := 3) hX 3 rfl (by decide) rfl dX6_crossed_174 ?_
                  refine Z_iinc (pc := 175) hX 1 rfl rfl dX6_crossed_175 ?_
                  refine V_goto (pc := 178) (off := (-173)) (tgt := 5) hX (by decide) dX6_crossed_178 ?_
                  have hc : crB σ.2.2.2.1 σ.2.2.2.2.1 σ.2.2.2.2.2 x y k = false := Bool.eq_false_iff.mpr (fun q => by have := (crB_t.mp q).2.1; have := (crB_t.mp q).2.2; omega)
                  refine V_cut [(0, some (.ref (E.1 (20, 0)))), (1, some (.int (oI x))), (2, some (.int (oI y))), (3, some (.int (oI ((fb_ct (crB σ.2.2.2.1 σ.2.2.2.2.1 σ.2.2.2.2.2 x y) (k + 1) : Nat) : Int)))), (4, some (.int (oI ((k + 1 : Nat) : Int))))] ⟨rfl, rfl, rfl, congrArg (fun q => some (Value.int (oI q))) (by rw [fb_ct_succ, hc]; simp), rfl, trivial⟩ ?_
                  exact ih (k + 1) (by omega) (by omega)
                · refine V_iconst (pc := 155) (z := 1) hX (oI 1) rfl dX6_crossed_155 ?_
                  refine V_goto (pc := 156) (off := 4) (tgt := 160) hX (by decide) dX6_crossed_156 ?_
                  refine Z_icmp_ne (pc := 160) (tgt := 172) hX (by omega) (by omega) dX6_crossed_160 (by decide) (fun h => absurd h (by decide)) (fun _ => ?_)
                  refine V_iload (pc := 163) hX rfl dX6_crossed_163 ?_
                  refine Z_if_eq (pc := 165) (tgt := 172) hX (by omega) dX6_crossed_165 (by decide) (fun h165 => ?_) (fun h165 => ?_)
                  · refine V_iconst (pc := 172) (z := 0) hX (oI 0) rfl dX6_crossed_172 ?_
                    refine Z_iadd (pc := 173) hX dX6_crossed_173 ?_
                    refine V_istore_n (pc := 174) (j := 3) hX 3 rfl (by decide) rfl dX6_crossed_174 ?_
                    refine Z_iinc (pc := 175) hX 1 rfl rfl dX6_crossed_175 ?_
                    refine V_goto (pc := 178) (off := (-173)) (tgt := 5) hX (by decide) dX6_crossed_178 ?_
                    have hc : crB σ.2.2.2.1 σ.2.2.2.2.1 σ.2.2.2.2.2 x y k = false := Bool.eq_false_iff.mpr (fun q => by have := (crB_t.mp q).2.1; have := (crB_t.mp q).2.2; omega)
                    refine V_cut [(0, some (.ref (E.1 (20, 0)))), (1, some (.int (oI x))), (2, some (.int (oI y))), (3, some (.int (oI ((fb_ct (crB σ.2.2.2.1 σ.2.2.2.2.1 σ.2.2.2.2.2 x y) (k + 1) : Nat) : Int)))), (4, some (.int (oI ((k + 1 : Nat) : Int))))] ⟨rfl, rfl, rfl, congrArg (fun q => some (Value.int (oI q))) (by rw [fb_ct_succ, hc]; simp), rfl, trivial⟩ ?_
                    exact ih (k + 1) (by omega) (by omega)
                  · refine V_iconst (pc := 168) (z := 1) hX (oI 1) rfl dX6_crossed_168 ?_
                    refine V_goto (pc := 169) (off := 4) (tgt := 173) hX (by decide) dX6_crossed_169 ?_
                    refine Z_iadd (pc := 173) hX dX6_crossed_173 ?_
                    refine V_istore_n (pc := 174) (j := 3) hX 3 rfl (by decide) rfl dX6_crossed_174 ?_
                    refine Z_iinc (pc := 175) hX 1 rfl rfl dX6_crossed_175 ?_
                    refine V_goto (pc := 178) (off := (-173)) (tgt := 5) hX (by decide) dX6_crossed_178 ?_
                    have hc : crB σ.2.2.2.1 σ.2.2.2.2.1 σ.2.2.2.2.2 x y k = true := crB_t.mpr ⟨by omega, by omega, by omega⟩
                    refine V_cut [(0, some (.ref (E.1 (20, 0)))), (1, some (.int (oI x))), (2, some (.int (oI y))), (3, some (.int (oI ((fb_ct (crB σ.2.2.2.1 σ.2.2.2.2.1 σ.2.2.2.2.2 x y) (k + 1) : Nat) : Int)))), (4, some (.int (oI ((k + 1 : Nat) : Int))))] ⟨rfl, rfl, rfl, congrArg (fun q => some (Value.int (oI q))) (by rw [fb_ct_succ, hc]; simp), rfl, trivial⟩ ?_
                    exact ih (k + 1) (by omega) (by omega)
          · refine V_iconst (pc := 63) (z := 1) hX (oI 1) rfl dX6_crossed_63 ?_
            refine V_goto (pc := 64) (off := 4) (tgt := 68) hX (by decide) dX6_crossed_64 ?_
            refine V_aload_n (pc := 68) (j := 0) hX 0 rfl rfl dX6_crossed_68 ?_
            refine gf_X6_23 (pc := 69) hX dX6_crossed_69 ?_
            refine V_iload (pc := 72) hX rfl dX6_crossed_72 ?_
            refine zl_25 (pc := 74) hX ((nxC σ.2.2.2.1 k)) (rfl) (by omega) dX6_crossed_74 ?_
            refine V_oI (σ.2.2.2.2.2 (nxC σ.2.2.2.1 k)) (hM.2.2.2.1.2.2 (nxC σ.2.2.2.1 k) (by omega)).2.1 ?_
            refine V_iload_n (pc := 75) (j := 2) hX 2 rfl rfl dX6_crossed_75 ?_
            refine Z_icmp_gt (pc := 76) (tgt := 83) hX (by omega) (by omega) dX6_crossed_76 (by decide) (fun h76 => ?_) (fun h76 => ?_)
            · refine V_iconst (pc := 83) (z := 0) hX (oI 0) rfl dX6_crossed_83 ?_
              refine Z_icmp_eq (pc := 84) (tgt := 175) hX (by omega) (by omega) dX6_crossed_84 (by decide) (fun h => absurd h (by decide)) (fun _ => ?_)
              refine V_iconst (pc := 87) (z := 2) hX (oI 2) rfl dX6_crossed_87 ?_
              refine V_aload_n (pc := 88) (j := 0) hX 0 rfl rfl dX6_crossed_88 ?_
              refine gf_X6_20 (pc := 89) hX dX6_crossed_89 ?_
              refine V_iload (pc := 92) hX rfl dX6_crossed_92 ?_
              refine zl_24 (pc := 94) hX _ rfl (by omega) dX6_crossed_94 ?_
              refine V_oI (σ.2.2.2.2.1 k) (hM.2.2.2.1.2.2 k (by omega)).1.1 ?_
              refine Z_imul (pc := 95) hX dX6_crossed_95 ?_
              refine V_iconst (pc := 96) (z := 2) hX (oI 2) rfl dX6_crossed_96 ?_
              refine V_iload_n (pc := 97) (j := 1) hX 1 rfl rfl dX6_crossed_97 ?_
              refine Z_imul (pc := 98) hX dX6_crossed_98 ?_
              refine Z_isub (pc := 99) hX dX6_crossed_99 ?_
              refine V_iconst (pc := 100) (z := 1) hX (oI 1) rfl dX6_crossed_100 ?_
              refine Z_isub (pc := 101) hX dX6_crossed_101 ?_
              refine V_iload (pc := 102) hX rfl dX6_crossed_102 ?_
              refine Z_imul (pc := 104) hX dX6_crossed_104 ?_
              refine V_iconst (pc := 105) (z := 2) hX (oI 2) rfl dX6_crossed_105 ?_
              refine V_iload_n (pc := 106) (j := 2) hX 2 rfl rfl dX6_crossed_106 ?_
              refine Z_imul (pc := 107) hX dX6_crossed_107 ?_
              refine V_iconst (pc := 108) (z := 1) hX (oI 1) rfl dX6_crossed_108 ?_
              refine Z_iadd (pc := 109) hX dX6_crossed_109 ?_
              refine V_iconst (pc := 110) (z := 2) hX (oI 2) rfl dX6_crossed_110 ?_
              refine V_aload_n (pc := 111) (j := 0) hX 0 rfl rfl dX6_crossed_111 ?_
              refine gf_X6_23 (pc := 112) hX dX6_crossed_112 ?_
              refine V_iload (pc := 115) hX rfl dX6_crossed_115 ?_
              refine zl_25 (pc := 117) hX _ rfl (by omega) dX6_crossed_117 ?_
              refine V_oI (σ.2.2.2.2.2 k) (hM.2.2.2.1.2.2 k (by omega)).2.1 ?_
              refine Z_imul (pc := 118) hX dX6_crossed_118 ?_
              refine Z_isub (pc := 119) hX dX6_crossed_119 ?_
              refine V_aload_n (pc := 120) (j := 0) hX 0 rfl rfl dX6_crossed_120 ?_
              refine gf_X6_20 (pc := 121) hX dX6_crossed_121 ?_
              refine V_iload (pc := 124) hX rfl dX6_crossed_124 ?_
              refine zl_24 (pc := 126) hX ((nxC σ.2.2.2.1 k)) (rfl) (by omega) dX6_crossed_126 ?_
              refine V_oI (σ.2.2.2.2.1 (nxC σ.2.2.2.1 k)) (hM.2.2.2.1.2.2 (nxC σ.2.2.2.1 k) (by omega)).1.1 ?_
              refine V_aload_n (pc := 127) (j := 0) hX 0 rfl rfl dX6_crossed_127 ?_
              refine gf_X6_20 (pc := 128) hX dX6_crossed_128 ?_
              refine V_iload (pc := 131) hX rfl dX6_crossed_131 ?_
              refine zl_24 (pc := 133) hX _ rfl (by omega) dX6_crossed_133 ?_
              refine V_oI (σ.2.2.2.2.1 k) (hM.2.2.2.1.2.2 k (by omega)).1.1 ?_
              refine Z_isub (pc := 134) hX dX6_crossed_134 ?_
              refine Z_imul (pc := 135) hX dX6_crossed_135 ?_
              refine Z_iadd (pc := 136) hX dX6_crossed_136 ?_
              have m1 := mul_bd (p := 2 * σ.2.2.2.2.1 k - 2 * x - 1) (q := σ.2.2.2.2.2 (nxC σ.2.2.2.1 k) - σ.2.2.2.2.2 k) (P := 241) (Q := 120) (by have := (hM.2.2.2.1.2.2 k (by omega)).1; omega) (by have := (hM.2.2.2.1.2.2 k (by omega)).2; have := (hM.2.2.2.1.2.2 (nxC σ.2.2.2.1 k) (by omega)).2; omega)
              have m2 := mul_bd (p := 2 * y + 1 - 2 * σ.2.2.2.2.2 k) (q := σ.2.2.2.2.1 (nxC σ.2.2.2.1 k) - σ.2.2.2.2.1 k) (P := 241) (Q := 120) (by have := (hM.2.2.2.1.2.2 k (by omega)).2; omega) (by have := (hM.2.2.2.1.2.2 k (by omega)).1; have := (hM.2.2.2.1.2.2 (nxC σ.2.2.2.1 k) (by omega)).1; omega)
              have hfar : farC (σ.2.2.2.2.1 k) (σ.2.2.2.2.2 k) (σ.2.2.2.2.1 (nxC σ.2.2.2.1 k)) (σ.2.2.2.2.2 (nxC σ.2.2.2.1 k)) x y = (2 * σ.2.2.2.2.1 k - 2 * x - 1) * (σ.2.2.2.2.2 (nxC σ.2.2.2.1 k) - σ.2.2.2.2.2 k) + (2 * y + 1 - 2 * σ.2.2.2.2.2 k) * (σ.2.2.2.2.1 (nxC σ.2.2.2.1 k) - σ.2.2.2.2.1 k) := rfl
              refine V_oI (farC (σ.2.2.2.2.1 k) (σ.2.2.2.2.2 k) (σ.2.2.2.2.1 (nxC σ.2.2.2.1 k)) (σ.2.2.2.2.2 (nxC σ.2.2.2.1 k)) x y) rfl ?_
              refine V_istore (pc := 137) hX (by decide) rfl dX6_crossed_137 ?_
              refine V_iload_n (pc := 139) (j := 3) hX 3 rfl rfl dX6_crossed_139 ?_
              refine V_iload (pc := 140) hX rfl dX6_crossed_140 ?_
              refine Z_if_le (pc := 142) (tgt := 149) hX (by omega) dX6_crossed_142 (by decide) (fun h142 => ?_) (fun h142 => ?_)
              · refine V_iconst (pc := 149) (z := 0) hX (oI 0) rfl dX6_crossed_149 ?_
                refine V_iload (pc := 150) hX rfl dX6_crossed_150 ?_
                refine Z_if_le (pc := 152) (tgt := 159) hX (by omega) dX6_crossed_152 (by decide) (fun h152 => ?_) (fun h152 => ?_)
                · refine V_iconst (pc := 159) (z := 0) hX (oI 0) rfl dX6_crossed_159 ?_
                  refine Z_icmp_ne (pc := 160) (tgt := 172) hX (by omega) (by omega) dX6_crossed_160 (by decide) (fun h => absurd h (by decide)) (fun _ => ?_)
                  refine V_iload (pc := 163) hX rfl dX6_crossed_163 ?_
                  refine Z_if_eq (pc := 165) (tgt := 172) hX (by omega) dX6_crossed_165 (by decide) (fun h165 => ?_) (fun h165 => ?_)
                  · refine V_iconst (pc := 172) (z := 0) hX (oI 0) rfl dX6_crossed_172 ?_
                    refine Z_iadd (pc := 173) hX dX6_crossed_173 ?_
                    refine V_istore_n (pc := 174) (j := 3) hX 3 rfl (by decide) rfl dX6_crossed_174 ?_
                    refine Z_iinc (pc := 175) hX 1 rfl rfl dX6_crossed_175 ?_
                    refine V_goto (pc := 178) (off := (-173)) (tgt := 5) hX (by decide) dX6_crossed_178 ?_
                    have hc : crB σ.2.2.2.1 σ.2.2.2.2.1 σ.2.2.2.2.2 x y k = false := Bool.eq_false_iff.mpr (fun q => by have := (crB_t.mp q).2.1; have := (crB_t.mp q).2.2; omega)
                    refine V_cut [(0, some (.ref (E.1 (20, 0)))), (1, some (.int (oI x))), (2, some (.int (oI y))), (3, some (.int (oI ((fb_ct (crB σ.2.2.2.1 σ.2.2.2.2.1 σ.2.2.2.2.2 x y) (k + 1) : Nat) : Int)))), (4, some (.int (oI ((k + 1 : Nat) : Int))))] ⟨rfl, rfl, rfl, congrArg (fun q => some (Value.int (oI q))) (by rw [fb_ct_succ, hc]; simp), rfl, trivial⟩ ?_
                    exact ih (k + 1) (by omega) (by omega)
                  · refine V_iconst (pc := 168) (z := 1) hX (oI 1) rfl dX6_crossed_168 ?_
                    refine V_goto (pc := 169) (off := 4) (tgt := 173) hX (by decide) dX6_crossed_169 ?_
                    refine Z_iadd (pc := 173) hX dX6_crossed_173 ?_
                    refine V_istore_n (pc := 174) (j := 3) hX 3 rfl (by decide) rfl dX6_crossed_174 ?_
                    refine Z_iinc (pc := 175) hX 1 rfl rfl dX6_crossed_175 ?_
                    refine V_goto (pc := 178) (off := (-173)) (tgt := 5) hX (by decide) dX6_crossed_178 ?_
                    have hc : crB σ.2.2.2.1 σ.2.2.2.2.1 σ.2.2.2.2.2 x y k = true := crB_t.mpr ⟨by omega, by omega, by omega⟩
                    refine V_cut [(0, some (.ref (E.1 (20, 0)))), (1, some (.int (oI x))), (2, some (.int (oI y))), (3, some (.int (oI ((fb_ct (crB σ.2.2.2.1 σ.2.2.2.2.1 σ.2.2.2.2.2 x y) (k + 1) : Nat) : Int)))), (4, some (.int (oI ((k + 1 : Nat) : Int))))] ⟨rfl, rfl, rfl, congrArg (fun q => some (Value.int (oI q))) (by rw [fb_ct_succ, hc]; simp), rfl, trivial⟩ ?_
                    exact ih (k + 1) (by omega) (by omega)
                · refine V_iconst (pc := 155) (z := 1) hX (oI 1) rfl dX6_crossed_155 ?_
                  refine V_goto (pc := 156) (off := 4) (tgt := 160) hX (by decide) dX6_crossed_156 ?_
                  refine Z_icmp_ne (pc := 160) (tgt := 172) hX (by omega) (by omega) dX6_crossed_160 (by decide) (fun _ => ?_) (fun h => absurd h (by decide))
                  refine V_iconst (pc := 172) (z := 0) hX (oI 0) rfl dX6_crossed_172 ?_
                  refine Z_iadd (pc := 173) hX dX6_crossed_173 ?_
                  refine V_istore_n (pc := 174) (j := 3) hX 3 rfl (by decide) rfl dX6_crossed_174 ?_
                  refine Z_iinc (pc := 175) hX 1 rfl rfl dX6_crossed_175 ?_
                  refine V_goto (pc := 178) (off := (-173)) (tgt := 5) hX (by decide) dX6_crossed_178 ?_
                  have hc : crB σ.2.2.2.1 σ.2.2.2.2.1 σ.2.2.2.2.2 x y k = false := Bool.eq_false_iff.mpr (fun q => by have := (crB_t.mp q).2.1; have := (crB_t.mp q).2.2; omega)
                  refine V_cut [(0, some (.ref (E.1 (20, 0)))), (1, some (.int (oI x))), (2, some (.int (oI y))), (3, some (.int (oI ((fb_ct (crB σ.2.2.2.1 σ.2.2.2.2.1 σ.2.2.2.2.2 x y) (k + 1) : Nat) : Int)))), (4, some (.int (oI ((k + 1 : Nat) : Int))))] ⟨rfl, rfl, rfl, congrArg (fun q => some (Value.int (oI q))) (by rw [fb_ct_succ, hc]; simp), rfl, trivial⟩ ?_
                  exact ih (k + 1) (by omega) (by omega)
              · refine V_iconst (pc := 145) (z := 1) hX (oI 1) rfl dX6_crossed_145 ?_
                refine V_goto (pc := 146) (off := 4) (tgt := 150) hX (by decide) dX6_crossed_146 ?_
                refine V_iload (pc := 150) hX rfl dX6_crossed_150 ?_
                refine Z_if_le (pc := 152) (tgt := 159) hX (by omega) dX6_crossed_152 (by decide) (fun h152 => ?_) (fun h152 => ?_)
                · refine V_iconst (pc := 159) (z := 0) hX (oI 0) rfl dX6_crossed_159 ?_
                  refine Z_icmp_ne (pc := 160) (tgt := 172) hX (by omega) (by omega) dX6_crossed_160 (by decide) (fun _ => ?_) (fun h => absurd h (by decide))
                  refine V_iconst (pc := 172) (z := 0) hX (oI 0) rfl dX6_crossed_172 ?_
                  refine Z_iadd (pc := 173) hX dX6_crossed_173 ?_
                  refine V_istore_n (pc := 174) (j := 3) hX 3 rfl (by decide) rfl dX6_crossed_174 ?_
                  refine Z_iinc (pc := 175) hX 1 rfl rfl dX6_crossed_175 ?_
                  refine V_goto (pc := 178) (off := (-173)) (tgt := 5) hX (by decide) dX6_crossed_178 ?_
                  have hc : crB σ.2.2.2.1 σ.2.2.2.2.1 σ.2.2.2.2.2 x y k = false := Bool.eq_false_iff.mpr (fun q => by have := (crB_t.mp q).2.1; have := (crB_t.mp q).2.2; omega)
                  refine V_cut [(0, some (.ref (E.1 (20, 0)))), (1, some (.int (oI x))), (2, some (.int (oI y))), (3, some (.int (oI ((fb_ct (crB σ.2.2.2.1 σ.2.2.2.2.1 σ.2.2.2.2.2 x y) (k + 1) : Nat) : Int)))), (4, some (.int (oI ((k + 1 : Nat) : Int))))] ⟨rfl, rfl, rfl, congrArg (fun q => some (Value.int (oI q))) (by rw [fb_ct_succ, hc]; simp), rfl, trivial⟩ ?_
                  exact ih (k + 1) (by omega) (by omega)
                · refine V_iconst (pc := 155) (z := 1) hX (oI 1) rfl dX6_crossed_155 ?_
                  refine V_goto (pc := 156) (off := 4) (tgt := 160) hX (by decide) dX6_crossed_156 ?_
                  refine Z_icmp_ne (pc := 160) (tgt := 172) hX (by omega) (by omega) dX6_crossed_160 (by decide) (fun h => absurd h (by decide)) (fun _ => ?_)
                  refine V_iload (pc := 163) hX rfl dX6_crossed_163 ?_
                  refine Z_if_eq (pc := 165) (tgt := 172) hX (by omega) dX6_crossed_165 (by decide) (fun h165 => ?_) (fun h165 => ?_)
                  · refine V_iconst (pc := 172) (z := 0) hX (oI 0) rfl dX6_crossed_172 ?_
                    refine Z_iadd (pc := 173) hX dX6_crossed_173 ?_
                    refine V_istore_n (pc := 174) (j := 3) hX 3 rfl (by decide) rfl dX6_crossed_174 ?_
                    refine Z_iinc (pc := 175) hX 1 rfl rfl dX6_crossed_175 ?_
                    refine V_goto (pc := 178) (off := (-173)) (tgt := 5) hX (by decide) dX6_crossed_178 ?_
                    have hc : crB σ.2.2.2.1 σ.2.2.2.2.1 σ.2.2.2.2.2 x y k = false := Bool.eq_false_iff.mpr (fun q => by have := (crB_t.mp q).2.1; have := (crB_t.mp q).2.2; omega)
                    refine V_cut [(0, some (.ref (E.1 (20, 0)))), (1, some (.int (oI x))), (2, some (.int (oI y))), (3, some (.int (oI ((fb_ct (crB σ.2.2.2.1 σ.2.2.2.2.1 σ.2.2.2.2.2 x y) (k + 1) : Nat) : Int)))), (4, some (.int (oI ((k + 1 : Nat) : Int))))] ⟨rfl, rfl, rfl, congrArg (fun q => some (Value.int (oI q))) (by rw [fb_ct_succ, hc]; simp), rfl, trivial⟩ ?_
                    exact ih (k + 1) (by omega) (by omega)
                  · refine V_iconst (pc := 168) (z := 1) hX (oI 1) rfl dX6_crossed_168 ?_
                    refine V_goto (pc := 169) (off := 4) (tgt := 173) hX (by decide) dX6_crossed_169 ?_
                    refine Z_iadd (pc := 173) hX dX6_crossed_173 ?_
                    refine V_istore_n (pc := 174) (j := 3) hX 3 rfl (by decide) rfl dX6_crossed_174 ?_
                    refine Z_iinc (pc := 175) hX 1 rfl rfl dX6_crossed_175 ?_
                    refine V_goto (pc := 178) (off := (-173)) (tgt := 5) hX (by decide) dX6_crossed_178 ?_
                    have hc : crB σ.2.2.2.1 σ.2.2.2.2.1 σ.2.2.2.2.2 x y k = true := crB_t.mpr ⟨by omega, by omega, by omega⟩
                    refine V_cut [(0, some (.ref (E.1 (20, 0)))), (1, some (.int (oI x))), (2, some (.int (oI y))), (3, some (.int (oI ((fb_ct (crB σ.2.2.2.1 σ.2.2.2.2.1 σ.2.2.2.2.2 x y) (k + 1) : Nat) : Int)))), (4, some (.int (oI ((k + 1 : Nat) : Int))))] ⟨rfl, rfl, rfl, congrArg (fun q => some (Value.int (oI q))) (by rw [fb_ct_succ, hc]; simp), rfl, trivial⟩ ?_
                    exact ih (k + 1) (by omega) (by omega)
            · refine V_iconst (pc := 79) (z := 1) hX (oI 1) rfl dX6_crossed_79 ?_
              refine V_goto (pc := 80) (off := 4) (tgt := 84) hX (by decide) dX6_crossed_80 ?_
              refine Z_icmp_eq (pc := 84) (tgt := 175) hX (by omega) (by omega) dX6_crossed_84 (by decide) (fun _ => ?_) (fun h => absurd h (by decide))
              refine Z_iinc (pc := 175) hX 1 rfl rfl dX6_crossed_175 ?_
              refine V_goto (pc := 178) (off := (-173)) (tgt := 5) hX (by decide) dX6_crossed_178 ?_
              have hc : crB σ.2.2.2.1 σ.2.2.2.2.1 σ.2.2.2.2.2 x y k = false := Bool.eq_false_iff.mpr (fun q => (crB_t.mp q).1 (by omega))
              refine V_cut [(0, some (.ref (E.1 (20, 0)))), (1, some (.int (oI x))), (2, some (.int (oI y))), (3, some (.int (oI ((fb_ct (crB σ.2.2.2.1 σ.2.2.2.2.1 σ.2.2.2.2.2 x y) (k + 1) : Nat) : Int)))), (4, some (.int (oI ((k + 1 : Nat) : Int))))] ⟨rfl, rfl, rfl, congrArg (fun q => some (Value.int (oI q))) (by rw [fb_ct_succ, hc]; simp), rfl, trivial⟩ ?_
              exact ih (k + 1) (by omega) (by omega)
  refine V_iconst (pc := 0) (z := 0) hX (oI 0) rfl dX6_crossed_0 ?_
  refine V_istore_n (pc := 1) (j := 3) hX 3 rfl (by decide) rfl dX6_crossed_1 ?_
  refine V_iconst (pc := 2) (z := 0) hX (oI 0) rfl dX6_crossed_2 ?_
  refine V_istore (pc := 3) hX (by decide) rfl dX6_crossed_3 ?_
  refine V_cut [(0, some (.ref (E.1 (20, 0)))), (1, some (.int (oI x))), (2, some (.int (oI y))), (3, some (.int (oI ((0 : Nat) : Int)))), (4, some (.int (oI ((0 : Nat) : Int))))] ⟨rfl, rfl, rfl, rfl, rfl, trivial⟩ ?_
  exact loop _ 0 (Nat.zero_le _) (Nat.lt_succ_self _)
def roundC (n : Nat) (xs ys : Nat → Int) : Cl := fun i j => decide (fb_ct (crB n xs ys ((i : Int) - 60) ((j : Int) - 60)) n % 2 = 1)
def cor0 (σ : AS) : AS := (σ.1, σ.2.1, σ.2.2.1, (0, σ.2.2.2.2))
def roundO (σ : AS) (to : Int) : Int × AS := if 0 ≤ to ∧ to ≤ 4 then (if σ.2.2.2.1 < 3 then noA σ else if fitC (roundC σ.2.2.2.1 σ.2.2.2.2.1 σ.2.2.2.2.2) then ((cntC (roundC σ.2.2.2.1 σ.2.2.2.2.1 σ.2.2.2.2.2) : Int), cor0 (setA σ to.toNat (roundC σ.2.2.2.1 σ.2.2.2.2.1 σ.2.2.2.2.2))) else (-204, refA σ (-204))) else badA σ
theorem Mst.cor {D : Dt} {σ : AS} (h : Mst D σ) : Mst (rU D 20 (upd (D.1 20) 6 (oI 0))) (cor0 σ) := by
  obtain ⟨h0, h1, h2, h3, h4⟩ := h
  exact ⟨h0, h1, h2, ⟨rfl, Nat.zero_le _, fun k hk => absurd hk (Nat.not_lt_zero k)⟩, h4⟩
theorem c_X6_round {E : Le} {l : Launch} {D : Dt} {σ : AS} {to : Int} (r_to : Rg to) (hM : Mst D σ) : ConIp E l yX6_round cX6_round 4 (some .int) 7 [.ref (E.1 (20, 0)), .int (oI to)] D (PubP D (roundO σ to)) := by
  refine Con_of (by decide) (Nat.le_of_ble_eq_true rfl) ?_
  intro X hX hR hl; subst hl
  have h10 := hM.2.2.2.1.2.1
  refine V_iload_n (pc := 0) (j := 1) hX 1 rfl rfl dX6_round_0 ?_
  refine cSI1 (pc := 1) hX (c_X6_isArea (by omega)) (by decide) st_X6_129 (Nat.le_of_ble_eq_true rfl) dX6_round_1 ?_
  refine B_if_ne (pc := 4) (tgt := 15) hX dX6_round_4 (by decide) (fun h4 => ?_) (fun h4 => ?_)
  · have q4 := inB_t.mp h4
    obtain ⟨b, rfl⟩ : ∃ N0 : Nat, to = (N0 : Int) := ⟨to.toNat, by omega⟩
    refine V_aload_n (pc := 15) (j := 0) hX 0 rfl rfl dX6_round_15 ?_
    refine gf_X6_156 (pc := 16) hX dX6_round_16 ?_
    refine V_oI (σ.2.2.2.1 : Int) hM.2.2.2.1.1 ?_
    refine V_iconst (pc := 19) (z := 3) hX (oI 3) rfl dX6_round_19 ?_
    refine Z_icmp_ge (pc := 20) (tgt := 31) hX (by omega) (by omega) dX6_round_20 (by decide) (fun h20 => ?_) (fun h20 => ?_)
    · have outer : ∀ (m v : Nat) (D1 : Dt) (t : Nat → Int64), v ≤ 120 → D1 = lU D 21 0 t → Out5 (D.2.1 21 0) t → AR t 5 (imC (roundC σ.2.2.2.1 σ.2.2.2.2.1 σ.2.2.2.2.2) (fun _ _ => true) (fun i _ => i) (fun _ j => j) 0 v) → 120 - v < m → Vw E X 4 D1 39 [(0, some (.ref (E.1 (20, 0)))), (1, some (.int (oI (b : Int)))), (2, some (.int (oI ((v : Int) - 60))))] [] := by
        intro m
        induction m with
        | zero => intro v D1 t g1 e1 e2 e3 g4; omega
        | succ m ihO =>
          intro v D1 t g1 e1 e2 e3 g4
          have inner : v < 120 → ∀ (m u : Nat) (D1 : Dt) (t : Nat → Int64), u ≤ 120 → D1 = lU D 21 0 t → Out5 (D.2.1 21 0) t → AR t 5 (imC (roundC σ.2.2.2.1 σ.2.2.2.2.1 σ.2.2.2.2.2) (fun _ _ => true) (fun i _ => i) (fun _ j => j) u v) → 120 - u < m → Vw E X 4 D1 48 [(0, some (.ref (E.1 (20, 0)))), (1, some (.int (oI (b : Int)))), (2, some (.int (oI ((v : Int) - 60)))), (3, some (.int (oI ((u : Int) - 60))))] [] := by
            intro hv m
            induction m with
            | zero => intro u D1 t g1 e1 e2 e3 g4; omega
            | succ m ih =>
              intro u D1 t g1 e1 e2 e3 g4
              have hcm := fb_ct_le (crB σ.2.2.2.1 σ.2.2.2.2.1 σ.2.2.2.2.2 ((u : Int) - 60) ((v : Int) - 60)) σ.2.2.2.1
              refine V_iload_n (pc := 48) (j := 3) hX 3 rfl rfl dX6_round_48 ?_
              refine V_bipush (pc := 49) (z := 59) hX (oI 59) (by decide) dX6_round_49 ?_
              refine Z_icmp_gt (pc := 51) (tgt := 79) hX (by omega) (by omega) dX6_round_51 (by decide) (fun h51 => ?_) (fun h51 => ?_)
              · refine Z_iinc (pc := 79) hX 1 rfl rfl dX6_round_79 ?_
                refine V_goto (pc := 82) (off := (-43)) (tgt := 39) hX (by decide) dX6_round_82 ?_
                have e : u = 120 := by omega
                subst e
                refine V_cut [(0, some (.ref (E.1 (20, 0)))), (1, some (.int (oI (b : Int)))), (2, some (.int (oI (((v + 1 : Nat) : Int) - 60))))] ⟨rfl, rfl, congrArg (fun q => some (Value.int (oI q))) (by omega), trivial⟩ ?_
                exact ihO (v + 1) D1 t (by omega) e1 e2 (e3.congr (fun i hi j hj => imC_n (fun _ => hi))) (by omega)
              · refine V_aload_n (pc := 54) (j := 0) hX 0 rfl rfl dX6_round_54 ?_
                refine V_iload_n (pc := 55) (j := 3) hX 3 rfl rfl dX6_round_55 ?_
                refine V_iload_n (pc := 56) (j := 2) hX 2 rfl rfl dX6_round_56 ?_
                refine cVI2 (pc := 57) hX (c_X6_crossed (σ := σ) (by omega) (by omega) (by rw [e1]; exact hM.fr (Fr_lU D t) (by rw [lU_get]; exact e2.o8))) (by decide) st_X6_159 ix_20 rfl rfl rfl (Nat.le_of_ble_eq_true rfl) dX6_round_57 ?_
                refine V_iconst (pc := 60) (z := 2) hX (oI 2) rfl dX6_round_60 ?_
                refine Z_irem (pc := 61) hX (by omega) (by omega) (by omega) (by omega) dX6_round_61 ?_
                refine V_iconst (pc := 62) (z := 1) hX (oI 1) rfl dX6_round_62 ?_
                refine Z_icmp_ne (pc := 63) (tgt := 73) hX (by omega) (by omega) dX6_round_63 (by decide) (fun h63 => ?_) (fun h63 => ?_)
                · refine Z_iinc (pc := 73) hX 1 rfl rfl dX6_round_73 ?_
                  refine V_goto (pc := 76) (off := (-28)) (tgt := 48) hX (by decide) dX6_round_76 ?_
                  refine V_cut [(0, some (.ref (E.1 (20, 0)))), (1, some (.int (oI (b : Int)))), (2, some (.int (oI ((v : Int) - 60)))), (3, some (.int (oI (((u + 1 : Nat) : Int) - 60))))] ⟨rfl, rfl, rfl, congrArg (fun q => some (Value.int (oI q))) (by omega), trivial⟩ ?_
                  have hu : (roundC σ.2.2.2.1 σ.2.2.2.2.1 σ.2.2.2.2.2) u v = false := decide_eq_false (by omega)
                  exact ih (u + 1) D1 t (by omega) e1 e2 (e3.congr (fun i hi j hj => imC_f hu i j)) (by omega)
                · refine V_aload_n (pc := 66) (j := 0) hX 0 rfl rfl dX6_round_66 ?_
                  refine V_iconst (pc := 67) (z := 5) hX (oI 5) rfl dX6_round_67 ?_
                  refine V_iload_n (pc := 68) (j := 3) hX 3 rfl rfl dX6_round_68 ?_
                  refine V_iload_n (pc := 69) (j := 2) hX 2 rfl rfl dX6_round_69 ?_
                  refine cVV3 (pc := 70) hX (c_X6_lays (a := 5) (by omega) (by omega) (by omega)) (by decide) st_X6_117 ix_20 rfl rfl rfl (Nat.le_of_ble_eq_true rfl) dX6_round_70 ?_
                  refine Z_iinc (pc := 73) hX 1 rfl rfl dX6_round_73 ?_
                  refine V_goto (pc := 76) (off := (-28)) (tgt := 48) hX (by decide) dX6_round_76 ?_
                  refine V_cut [(0, some (.ref (E.1 (20, 0)))), (1, some (.int (oI (b : Int)))), (2, some (.int (oI ((v : Int) - 60)))), (3, some (.int (oI (((u + 1 : Nat) : Int) - 60))))] ⟨rfl, rfl, rfl, congrArg (fun q => some (Value.int (oI q))) (by omega), trivial⟩ ?_
                  have hu : (roundC σ.2.2.2.1 σ.2.2.2.2.1 σ.2.2.2.2.2) u v = true := decide_eq_true (by omega)
                  refine ih (u + 1) _ _ (by omega) (by rw [e1, lU_get, lU_lU]) (e2.tr (Out5_set (by omega) (by omega))) ((AR_set (by omega) (by omega) e3).congr (fun i hi j hj => imC_t hu ⟨rfl, by omega, by omega⟩ (fun i j hi hj ho q1 q2 => by omega) hi hj)) (by omega)
          refine V_iload_n (pc := 39) (j := 2) hX 2 rfl rfl dX6_round_39 ?_
          refine V_bipush (pc := 40) (z := 59) hX (oI 59) (by decide) dX6_round_40 ?_
          refine Z_icmp_gt (pc := 42) (tgt := 85) hX (by omega) (by omega) dX6_round_42 (by decide) (fun h42 => ?_) (fun h42 => ?_)
          · have e : v = 120 := by omega
            subst e
            have hT : AR (D1.2.1 21 0) 5 (roundC σ.2.2.2.1 σ.2.2.2.2.1 σ.2.2.2.2.2) := by
              rw [e1, lU_get]
              exact e3.congr (fun i hi j hj => (imC_e (fun _ => hj)).trans (Bool.true_and _))
            refine V_aload_n (pc := 85) (j := 0) hX 0 rfl rfl dX6_round_85 ?_
            refine V_iload_n (pc := 86) (j := 1) hX 1 rfl rfl dX6_round_86 ?_
            refine cVIp1 (pc := 87) hX (c_X6_becomes (b := b) (by omega) hT) (by decide) st_X6_114 ix_20 rfl rfl rfl (Nat.le_of_ble_eq_true rfl) dX6_round_87 (fun r87 D87 h87 => ?_)
            have hk : MkP D (roundC σ.2.2.2.1 σ.2.2.2.2.1 σ.2.2.2.2.2) b r87 D87 := h87.from (by rw [e1]; exact Fr_lU D t) (by rw [e1, lU_get]; exact e2.o8)
            have hrg := mkV_rg (roundC σ.2.2.2.1 σ.2.2.2.2.1 σ.2.2.2.2.2)
            have hmk := hM.mk (by omega) hk
            have hct := cntC_max (roundC σ.2.2.2.1 σ.2.2.2.2.1 σ.2.2.2.2.2)
            have hF : fitC (roundC σ.2.2.2.1 σ.2.2.2.2.1 σ.2.2.2.2.2) = false → mkV (roundC σ.2.2.2.1 σ.2.2.2.2.1 σ.2.2.2.2.2) = -204 := fun q => by rw [mkV, q]; rfl
            have hG : fitC (roundC σ.2.2.2.1 σ.2.2.2.2.1 σ.2.2.2.2.2) = true → mkV (roundC σ.2.2.2.1 σ.2.2.2.2.1 σ.2.2.2.2.2) = (cntC (roundC σ.2.2.2.1 σ.2.2.2.2.1 σ.2.2.2.2.2) : Int) := fun q => by rw [mkV, q]; rfl
            refine V_oI (mkV (roundC σ.2.2.2.1 σ.2.2.2.2.1 σ.2.2.2.2.2)) h87.2.1 ?_
            refine V_istore_n (pc := 90) (j := 2) hX 2 rfl (by decide) rfl dX6_round_90 ?_
            refine V_iload_n (pc := 91) (j := 2) hX 2 rfl rfl dX6_round_91 ?_
            refine V_sipush (pc := 92) (z := (-204)) hX (oI (-204)) (by decide) dX6_round_92 ?_
            refine Z_icmp_ne (pc := 95) (tgt := 106) hX (by omega) (by omega) dX6_round_95 (by decide) (fun h95 => ?_) (fun h95 => ?_)
            · refine V_aload_n (pc := 106) (j := 0) hX 0 rfl rfl dX6_round_106 ?_
              refine V_iconst (pc := 107) (z := 0) hX (oI 0) rfl dX6_round_107 ?_
              refine pf_X6_156 (pc := 108) hX dX6_round_108 ?_
              refine V_iload_n (pc := 111) (j := 2) hX 2 rfl rfl dX6_round_111 ?_
              refine V_iret (pc := 112) hX hR dX6_round_112 ?_
              have hf : fitC (roundC σ.2.2.2.1 σ.2.2.2.2.1 σ.2.2.2.2.2) = true := by
                cases q : fitC (roundC σ.2.2.2.1 σ.2.2.2.2.1 σ.2.2.2.2.2) with
                | true => rfl
                | false => have := hF q; omega
              have hg := hG hf
              rw [endS, if_neg (by omega), rU_self, mkA, hf] at hmk
              refine ⟨_, rfl, ?_⟩
              rw [roundO, if_pos (by omega), if_neg (by omega), hf, Int.toNat_natCast]
              exact ⟨by rw [hg]; rfl, hmk.cor, hk.1.ck.tr (CK_rU _ (by decide) _)⟩
            · refine V_aload_n (pc := 98) (j := 0) hX 0 rfl rfl dX6_round_98 ?_
              refine V_sipush (pc := 99) (z := (-204)) hX (oI (-204)) (by decide) dX6_round_99 ?_
              refine cVI1 (pc := 102) hX (c_X6_refuses (by omega)) (by decide) st_X6_105 ix_20 rfl rfl rfl (Nat.le_of_ble_eq_true rfl) dX6_round_102 ?_
              refine V_iret (pc := 105) hX hR dX6_round_105 ?_
              have hf : fitC (roundC σ.2.2.2.1 σ.2.2.2.2.1 σ.2.2.2.2.2) = false := by
                cases q : fitC (roundC σ.2.2.2.1 σ.2.2.2.2.1 σ.2.2.2.2.2) with
                | false => rfl
                | true => have := hG q; omega
              rw [endS, if_pos (by omega), h95, mkA, hf] at hmk
              exact ⟨_, rfl, by rw [roundO, if_pos (by omega), if_neg (by omega), hf]; exact ⟨rfl, hmk, hk.1.ck.tr (CK_rU _ (by decide) _)⟩⟩
          · refine V_bipush (pc := 45) (z := (-60)) hX (oI (-60)) (by decide) dX6_round_45 ?_
            refine V_istore_n (pc := 47) (j := 3) hX 3 rfl (by decide) rfl dX6_round_47 ?_
            refine V_cut [(0, some (.ref (E.1 (20, 0)))), (1, some (.int (oI (b : Int)))), (2, some (.int (oI ((v : Int) - 60)))), (3, some (.int (oI (((0 : Nat) : Int) - 60))))] ⟨rfl, rfl, rfl, rfl, trivial⟩ ?_
            exact inner (by omega) 121 0 D1 t (by omega) e1 e2 e3 (by omega)
      refine V_aload_n (pc := 31) (j := 0) hX 0 rfl rfl dX6_round_31 ?_
      refine V_iconst (pc := 32) (z := 5) hX (oI 5) rfl dX6_round_32 ?_
      refine cVV1 (pc := 33) hX (c_X6_empties (a := 5) (by omega)) (by decide) st_X6_108 ix_20 rfl rfl rfl (Nat.le_of_ble_eq_true rfl) dX6_round_33 ?_
      refine V_bipush (pc := 36) (z := (-60)) hX (oI (-60)) (by decide) dX6_round_36 ?_
      refine V_istore_n (pc := 38) (j := 2) hX 2 rfl (by decide) rfl dX6_round_38 ?_
      refine V_cut [(0, some (.ref (E.1 (20, 0)))), (1, some (.int (oI (b : Int)))), (2, some (.int (oI (((0 : Nat) : Int) - 60))))] ⟨rfl, rfl, rfl, trivial⟩ ?_
      exact outer 121 0 _ _ (by omega) rfl Out5_blk (AR_empty.congr (fun i hi j hj => (imC_0 _ _ _ _ i j).symm)) (by omega)
    · refine V_aload_n (pc := 23) (j := 0) hX 0 rfl rfl dX6_round_23 ?_
      refine V_sipush (pc := 24) (z := (-203)) hX (oI (-203)) (by decide) dX6_round_24 ?_
      refine cVI1 (pc := 27) hX (c_X6_refuses (by omega)) (by decide) st_X6_105 ix_20 rfl rfl rfl (Nat.le_of_ble_eq_true rfl) dX6_round_27 ?_
      refine V_iret (pc := 30) hX hR dX6_round_30 ?_
      exact ⟨_, rfl, by rw [roundO, if_pos (by omega), if_pos (by omega)]; exact Pub_no0 hM⟩
  · have q4 := inB_f.mp h4
    refine V_aload_n (pc := 7) (j := 0) hX 0 rfl rfl dX6_round_7 ?_
    refine V_sipush (pc := 8) (z := (-202)) hX (oI (-202)) (by decide) dX6_round_8 ?_
    refine cVI1 (pc := 11) hX (c_X6_refuses (by omega)) (by decide) st_X6_105 ix_20 rfl rfl rfl (Nat.le_of_ble_eq_true rfl) dX6_round_11 ?_
    refine V_iret (pc := 14) hX hR dX6_round_14 ?_
    exact ⟨_, rfl, by rw [roundO, if_neg (by omega)]; exact Pub_bad hM⟩
