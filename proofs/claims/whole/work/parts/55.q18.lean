/-! THE RING -/
def CrQ (D : Dt) (n : Nat) (xs ys : Nat → Int) : Prop := D.1 12 2 = oI (n : Int) ∧ n ≤ 10 ∧ ∀ k, k < n → (D.1 13 k = oI (xs k) ∧ -60 ≤ xs k ∧ xs k ≤ 60) ∧ (D.1 14 k = oI (ys k) ∧ -60 ≤ ys k ∧ ys k ≤ 60)
theorem CrQ.fr {D D' : Dt} {n : Nat} {xs ys : Nat → Int} (h : CrQ D n xs ys) (e : ∀ t, (t = 12 ∨ t = 13 ∨ t = 14) → D'.1 t = D.1 t) : CrQ D' n xs ys := by
  unfold CrQ
  rw [e 12 (Or.inl rfl), e 13 (Or.inr (Or.inl rfl)), e 14 (Or.inr (Or.inr rfl))]
  exact h
def paC (n : Nat) (xs ys : Nat → Int) (k : Nat) : Cl := fun i j => decide (fb_ct (crB n xs ys ((i : Int) - 60) ((j : Int) - 60)) k % 2 = 1)
theorem pa_s (n : Nat) (xs ys : Nat → Int) (k i j : Nat) : paC n xs ys (k + 1) i j = (paC n xs ys k i j ^^ crB n xs ys ((i : Int) - 60) ((j : Int) - 60) k) := by
  unfold paC
  rw [fb_ct_succ]
  generalize fb_ct (crB n xs ys ((i : Int) - 60) ((j : Int) - 60)) k = c
  cases crB n xs ys ((i : Int) - 60) ((j : Int) - 60) k with
  | false => rw [if_neg Bool.false_ne_true, Nat.add_zero, Bool.xor_false]
  | true =>
    rw [if_pos rfl, Bool.xor_true]
    by_cases q : c % 2 = 1
    · rw [decide_eq_true q, decide_eq_false (by omega)]; rfl
    · rw [decide_eq_false q, decide_eq_true (by omega)]; rfl
theorem far_neg (xk yk xj yj x y : Int) : farC xj yj xk yk x y = -farC xk yk xj yj x y := by
  unfold farC
  obtain ⟨h, hh⟩ : ∃ h, h = yj - yk := ⟨_, rfl⟩
  obtain ⟨w, hw⟩ : ∃ w, w = xj - xk := ⟨_, rfl⟩
  obtain ⟨A, hA⟩ : ∃ A, A = 2 * xk - 2 * x - 1 := ⟨_, rfl⟩
  obtain ⟨B, hB⟩ : ∃ B, B = 2 * y + 1 - 2 * yk := ⟨_, rfl⟩
  rw [show 2 * xj - 2 * x - 1 = A + 2 * w by omega, show yk - yj = -h by omega, show 2 * y + 1 - 2 * yj = B - 2 * h by omega, show xk - xj = -w by omega, ← hA, ← hh, ← hB, ← hw]
  rw [Int.mul_neg, Int.mul_neg, Int.add_mul, Int.sub_mul, Int.mul_assoc 2 w h, Int.mul_assoc 2 h w, Int.mul_comm w h]
  omega
theorem pa_a {n : Nat} {xs ys : Nat → Int} {k : Nat} (h : ys k < ys (nxC n k)) (i j : Nat) : laT (paC n xs ys k) (xs k) (ys k) (xs (nxC n k)) (ys (nxC n k)) (ys (nxC n k) - ys k) i j = paC n xs ys (k + 1) i j := by
  rw [pa_s, laT, crB]
  congr 1
  rw [decide_eq_decide]
  unfold crP
  generalize farC (xs k) (ys k) (xs (nxC n k)) (ys (nxC n k)) ((i : Int) - 60) ((j : Int) - 60) = f
  omega
theorem pa_b {n : Nat} {xs ys : Nat → Int} {k : Nat} (h : ys (nxC n k) < ys k) (i j : Nat) : laT (paC n xs ys k) (xs (nxC n k)) (ys (nxC n k)) (xs k) (ys k) (ys k - ys (nxC n k)) i j = paC n xs ys (k + 1) i j := by
  rw [pa_s, laT, crB, far_neg]
  congr 1
  rw [decide_eq_decide]
  unfold crP
  generalize farC (xs k) (ys k) (xs (nxC n k)) (ys (nxC n k)) ((i : Int) - 60) ((j : Int) - 60) = f
  omega
theorem pa_c {n : Nat} {xs ys : Nat → Int} {k : Nat} (h : ys (nxC n k) = ys k) (i j : Nat) : paC n xs ys k i j = paC n xs ys (k + 1) i j := by
  rw [pa_s, crB, decide_eq_false (by unfold crP; rw [h]; exact fun q => q.1 Iff.rfl), Bool.xor_false]
theorem nx_lt {n k : Nat} (h : k < n) : nxC n k < n := by unfold nxC; split <;> omega
theorem c_X2_lay {E : Le} {l : Launch} {D : Dt} {z : Fin 11} {n : Nat} {xs ys : Nat → Int} (hC : CrQ D n xs ys) : ConVp E l yX2_lay cX2_lay 4 none 4 [.ref (E.1 (12, 0)), .ref (E.1 (1, z))] D (fun D' => Az z D D' ∧ AC D' z (roundC n xs ys)) := by
  have hn10 := hC.2.1
  refine Con_of (by decide) (Nat.le_of_ble_eq_true rfl) ?_
  intro X hX hR hl; subst hl
  have loop : ∀ (m : Nat) (k : Nat) (D1 : Dt), k ≤ n → Az z D D1 → AC D1 z (paC n xs ys k) → n - k < m → Vw E X 4 D1 6 [(0, some (.ref (E.1 (12, 0)))), (1, some (.ref (E.1 (1, z)))), (2, some (.int (oI (k : Int))))] [] := by
    intro m
    induction m with
    | zero => intro k D1 g1 g2 g3 g4; omega
    | succ m ih =>
      intro k D1 g1 g2 g3 g4
      have hC1 : CrQ D1 n xs ys := hC.fr (fun t _ => by rw [g2.1])
      refine V_iload_n (pc := 6) (j := 2) hX 2 rfl rfl dX2_lay_6 ?_
      refine V_aload_n (pc := 7) (j := 0) hX 0 rfl rfl dX2_lay_7 ?_
      refine gf_X2_18 (pc := 8) hX dX2_lay_8 ?_
      refine V_oI (n : Int) hC1.1 ?_
      refine Z_icmp_ge (pc := 11) (tgt := 85) hX (by omega) (by omega) dX2_lay_11 (by decide) (fun h11 => ?_) (fun h11 => ?_)
      · refine V_vret (pc := 85) hX hR dX2_lay_85 ?_
        have e : k = n := by omega
        subst e
        exact ⟨rfl, g2, g3⟩
      · have ck := hC1.2.2 k (by omega)
        have hnx := nx_lt (show k < n by omega)
        have cn := hC1.2.2 (nxC n k) hnx
        refine V_iload_n (pc := 14) (j := 2) hX 2 rfl rfl dX2_lay_14 ?_
        refine V_iconst (pc := 15) (z := 1) hX (oI 1) rfl dX2_lay_15 ?_
        refine Z_iadd (pc := 16) hX dX2_lay_16 ?_
        refine V_aload_n (pc := 17) (j := 0) hX 0 rfl rfl dX2_lay_17 ?_
        refine gf_X2_18 (pc := 18) hX dX2_lay_18 ?_
        refine V_oI (n : Int) hC1.1 ?_
        refine Z_icmp_ge (pc := 21) (tgt := 30) hX (by omega) (by omega) dX2_lay_21 (by decide) (fun h21 => ?_) (fun h21 => ?_)
        · refine V_iconst (pc := 30) (z := 0) hX (oI 0) rfl dX2_lay_30 ?_
          refine V_istore_n (pc := 31) (j := 3) hX 3 rfl (by decide) rfl dX2_lay_31 ?_
          refine V_cut [(0, some (.ref (E.1 (12, 0)))), (1, some (.ref (E.1 (1, z)))), (2, some (.int (oI (k : Int)))), (3, some (.int (oI (nxC n k : Int))))] ⟨rfl, rfl, rfl, congrArg (fun q => some (Value.int (oI q))) (by unfold nxC; rw [if_neg (by omega)]; omega), trivial⟩ ?_
          refine V_aload_n (pc := 32) (j := 0) hX 0 rfl rfl dX2_lay_32 ?_
          refine gf_X2_15 (pc := 33) hX dX2_lay_33 ?_
          refine V_iload_n (pc := 36) (j := 2) hX 2 rfl rfl dX2_lay_36 ?_
          refine zl_14 (pc := 37) hX (k) (by omega) (by omega) dX2_lay_37 ?_
          refine V_oI (ys k) ck.2.1 ?_
          refine V_aload_n (pc := 38) (j := 0) hX 0 rfl rfl dX2_lay_38 ?_
          refine gf_X2_15 (pc := 39) hX dX2_lay_39 ?_
          refine V_iload_n (pc := 42) (j := 3) hX 3 rfl rfl dX2_lay_42 ?_
          refine zl_14 (pc := 43) hX (nxC n k) (rfl) (by omega) dX2_lay_43 ?_
          refine V_oI (ys (nxC n k)) cn.2.1 ?_
          refine Z_icmp_ge (pc := 44) (tgt := 57) hX (by omega) (by omega) dX2_lay_44 (by decide) (fun h44 => ?_) (fun h44 => ?_)
          · refine V_aload_n (pc := 57) (j := 0) hX 0 rfl rfl dX2_lay_57 ?_
            refine gf_X2_15 (pc := 58) hX dX2_lay_58 ?_
            refine V_iload_n (pc := 61) (j := 2) hX 2 rfl rfl dX2_lay_61 ?_
            refine zl_14 (pc := 62) hX (k) (by omega) (by omega) dX2_lay_62 ?_
            refine V_oI (ys k) ck.2.1 ?_
            refine V_aload_n (pc := 63) (j := 0) hX 0 rfl rfl dX2_lay_63 ?_
            refine gf_X2_15 (pc := 64) hX dX2_lay_64 ?_
            refine V_iload_n (pc := 67) (j := 3) hX 3 rfl rfl dX2_lay_67 ?_
            refine zl_14 (pc := 68) hX (nxC n k) (rfl) (by omega) dX2_lay_68 ?_
            refine V_oI (ys (nxC n k)) cn.2.1 ?_
            refine Z_icmp_le (pc := 69) (tgt := 79) hX (by omega) (by omega) dX2_lay_69 (by decide) (fun h69 => ?_) (fun h69 => ?_)
            · refine Z_iinc (pc := 79) hX 1 rfl rfl dX2_lay_79 ?_
              refine V_goto (pc := 82) (off := (-76)) (tgt := 6) hX (by decide) dX2_lay_82 ?_
              refine V_cut [(0, some (.ref (E.1 (12, 0)))), (1, some (.ref (E.1 (1, z)))), (2, some (.int (oI ((k + 1 : Nat) : Int))))] ⟨rfl, rfl, rfl, trivial⟩ ?_
              exact ih (k + 1) _ (by omega) g2 (AR.congr g3 (fun i _ j _ => pa_c (by omega) i j)) (by omega)
            · refine V_aload_n (pc := 72) (j := 0) hX 0 rfl rfl dX2_lay_72 ?_
              refine V_aload_n (pc := 73) (j := 1) hX 1 rfl rfl dX2_lay_73 ?_
              refine V_iload_n (pc := 74) (j := 3) hX 3 rfl rfl dX2_lay_74 ?_
              refine V_iload_n (pc := 75) (j := 2) hX 2 rfl rfl dX2_lay_75 ?_
              refine cVVp3 (pc := 76) hX (c_X2_laySide (S := paC n xs ys k) (u := nxC n k) (l2 := k) (xu := xs (nxC n k)) (yu := ys (nxC n k)) (xl := xs (k)) (yl := ys (k)) (by omega) (by omega) cn.1.1 cn.2.1 ck.1.1 ck.2.1 cn.1.2 ck.1.2 (by omega) cn.2.2 g3) (by decide) st_X2_27 ix_12 rfl rfl rfl (Nat.le_of_ble_eq_true rfl) dX2_lay_76 (fun D76 h76 => ?_)
              refine Z_iinc (pc := 79) hX 1 rfl rfl dX2_lay_79 ?_
              refine V_goto (pc := 82) (off := (-76)) (tgt := 6) hX (by decide) dX2_lay_82 ?_
              refine V_cut [(0, some (.ref (E.1 (12, 0)))), (1, some (.ref (E.1 (1, z)))), (2, some (.int (oI ((k + 1 : Nat) : Int))))] ⟨rfl, rfl, rfl, trivial⟩ ?_
              exact ih (k + 1) _ (by omega) (g2.tr h76.1) (AR.congr h76.2 (fun i _ j _ => pa_b (by omega) i j)) (by omega)
          · refine V_aload_n (pc := 47) (j := 0) hX 0 rfl rfl dX2_lay_47 ?_
            refine V_aload_n (pc := 48) (j := 1) hX 1 rfl rfl dX2_lay_48 ?_
            refine V_iload_n (pc := 49) (j := 2) hX 2 rfl rfl dX2_lay_49 ?_
            refine V_iload_n (pc := 50) (j := 3) hX 3 rfl rfl dX2_lay_50 ?_
            refine cVVp3 (pc := 51) hX (c_X2_laySide (S := paC n xs ys k) (u := k) (l2 := nxC n k) (xu := xs (k)) (yu := ys (k)) (xl := xs (nxC n k)) (yl := ys (nxC n k)) (by omega) (by omega) ck.1.1 ck.2.1 cn.1.1 cn.2.1 ck.1.2 cn.1.2 (by omega) ck.2.2 g3) (by decide) st_X2_27 ix_12 rfl rfl rfl (Nat.le_of_ble_eq_true rfl) dX2_lay_51 (fun D51 h51 => ?_)
            refine V_goto (pc := 54) (off := 25) (tgt := 79) hX (by decide) dX2_lay_54 ?_
            refine Z_iinc (pc := 79) hX 1 rfl rfl dX2_lay_79 ?_
            refine V_goto (pc := 82) (off := (-76)) (tgt := 6) hX (by decide) dX2_lay_82 ?_
            refine V_cut [(0, some (.ref (E.1 (12, 0)))), (1, some (.ref (E.1 (1, z)))), (2, some (.int (oI ((k + 1 : Nat) : Int))))] ⟨rfl, rfl, rfl, trivial⟩ ?_
            exact ih (k + 1) _ (by omega) (g2.tr h51.1) (AR.congr h51.2 (fun i _ j _ => pa_a (by omega) i j)) (by omega)
        · refine V_iload_n (pc := 24) (j := 2) hX 2 rfl rfl dX2_lay_24 ?_
          refine V_iconst (pc := 25) (z := 1) hX (oI 1) rfl dX2_lay_25 ?_
          refine Z_iadd (pc := 26) hX dX2_lay_26 ?_
          refine V_goto (pc := 27) (off := 4) (tgt := 31) hX (by decide) dX2_lay_27 ?_
          refine V_istore_n (pc := 31) (j := 3) hX 3 rfl (by decide) rfl dX2_lay_31 ?_
          refine V_cut [(0, some (.ref (E.1 (12, 0)))), (1, some (.ref (E.1 (1, z)))), (2, some (.int (oI (k : Int)))), (3, some (.int (oI (nxC n k : Int))))] ⟨rfl, rfl, rfl, congrArg (fun q => some (Value.int (oI q))) (by unfold nxC; rw [if_pos (by omega)]; omega), trivial⟩ ?_
          refine V_aload_n (pc := 32) (j := 0) hX 0 rfl rfl dX2_lay_32 ?_
          refine gf_X2_15 (pc := 33) hX dX2_lay_33 ?_
          refine V_iload_n (pc := 36) (j := 2) hX 2 rfl rfl dX2_lay_36 ?_
          refine zl_14 (pc := 37) hX (k) (by omega) (by omega) dX2_lay_37 ?_
          refine V_oI (ys k) ck.2.1 ?_
          refine V_aload_n (pc := 38) (j := 0) hX 0 rfl rfl dX2_lay_38 ?_
          refine gf_X2_15 (pc := 39) hX dX2_lay_39 ?_
          refine V_iload_n (pc := 42) (j := 3) hX 3 rfl rfl dX2_lay_42 ?_
          refine zl_14 (pc := 43) hX (nxC n k) (rfl) (by omega) dX2_lay_43 ?_
          refine V_oI (ys (nxC n k)) cn.2.1 ?_
          refine Z_icmp_ge (pc := 44) (tgt := 57) hX (by omega) (by omega) dX2_lay_44 (by decide) (fun h44 => ?_) (fun h44 => ?_)
          · refine V_aload_n (pc := 57) (j := 0) hX 0 rfl rfl dX2_lay_57 ?_
            refine gf_X2_15 (pc := 58) hX dX2_lay_58 ?_
            refine V_iload_n (pc := 61) (j := 2) hX 2 rfl rfl dX2_lay_61 ?_
            refine zl_14 (pc := 62) hX (k) (by omega) (by omega) dX2_lay_62 ?_
            refine V_oI (ys k) ck.2.1 ?_
            refine V_aload_n (pc := 63) (j := 0) hX 0 rfl rfl dX2_lay_63 ?_
            refine gf_X2_15 (pc := 64) hX dX2_lay_64 ?_
            refine V_iload_n (pc := 67) (j := 3) hX 3 rfl rfl dX2_lay_67 ?_
            refine zl_14 (pc := 68) hX (nxC n k) (rfl) (by omega) dX2_lay_68 ?_
            refine V_oI (ys (nxC n k)) cn.2.1 ?_
            refine Z_icmp_le (pc := 69) (tgt := 79) hX (by omega) (by omega) dX2_lay_69 (by decide) (fun h69 => ?_) (fun h69 => ?_)
            · refine Z_iinc (pc := 79) hX 1 rfl rfl dX2_lay_79 ?_
              refine V_goto (pc := 82) (off := (-76)) (tgt := 6) hX (by decide) dX2_lay_82 ?_
              refine V_cut [(0, some (.ref (E.1 (12, 0)))), (1, some (.ref (E.1 (1, z)))), (2, some (.int (oI ((k + 1 : Nat) : Int))))] ⟨rfl, rfl, rfl, trivial⟩ ?_
              exact ih (k + 1) _ (by omega) g2 (AR.congr g3 (fun i _ j _ => pa_c (by omega) i j)) (by omega)
            · refine V_aload_n (pc := 72) (j := 0) hX 0 rfl rfl dX2_lay_72 ?_
              refine V_aload_n (pc := 73) (j := 1) hX 1 rfl rfl dX2_lay_73 ?_
              refine V_iload_n (pc := 74) (j := 3) hX 3 rfl rfl dX2_lay_74 ?_
              refine V_iload_n (pc := 75) (j := 2) hX 2 rfl rfl dX2_lay_75 ?_
              refine cVVp3 (pc := 76) hX (c_X2_laySide (S := paC n xs ys k) (u := nxC n k) (l2 := k) (xu := xs (nxC n k)) (yu := ys (nxC n k)) (xl := xs (k)) (yl := ys (k)) (by omega) (by omega) cn.1.1 cn.2.1 ck.1.1 ck.2.1 cn.1.2 ck.1.2 (by omega) cn.2.2 g3) (by decide) st_X2_27 ix_12 rfl rfl rfl (Nat.le_of_ble_eq_true rfl) dX2_lay_76 (fun D76 h76 => ?_)
              refine Z_iinc (pc := 79) hX 1 rfl rfl dX2_lay_79 ?_
              refine V_goto (pc := 82) (off := (-76)) (tgt := 6) hX (by decide) dX2_lay_82 ?_
              refine V_cut [(0, some (.ref (E.1 (12, 0)))), (1, some (.ref (E.1 (1, z)))), (2, some (.int (oI ((k + 1 : Nat) : Int))))] ⟨rfl, rfl, rfl, trivial⟩ ?_
              exact ih (k + 1) _ (by omega) (g2.tr h76.1) (AR.congr h76.2 (fun i _ j _ => pa_b (by omega) i j)) (by omega)
          · refine V_aload_n (pc := 47) (j := 0) hX 0 rfl rfl dX2_lay_47 ?_
            refine V_aload_n (pc := 48) (j := 1) hX 1 rfl rfl dX2_lay_48 ?_
            refine V_iload_n (pc := 49) (j := 2) hX 2 rfl rfl dX2_lay_49 ?_
            refine V_iload_n (pc := 50) (j := 3) hX 3 rfl rfl dX2_lay_50 ?_
            refine cVVp3 (pc := 51) hX (c_X2_laySide (S := paC n xs ys k) (u := k) (l2 := nxC n k) (xu := xs (k)) (yu := ys (k)) (xl := xs (nxC n k)) (yl := ys (nxC n k)) (by omega) (by omega) ck.1.1 ck.2.1 cn.1.1 cn.2.1 ck.1.2 cn.1.2 (by omega) ck.2.2 g3) (by decide) st_X2_27 ix_12 rfl rfl rfl (Nat.le_of_ble_eq_true rfl) dX2_lay_51 (fun D51 h51 => ?_)
            refine V_goto (pc := 54) (off := 25) (tgt := 79) hX (by decide) dX2_lay_54 ?_
            refine Z_iinc (pc := 79) hX 1 rfl rfl dX2_lay_79 ?_
            refine V_goto (pc := 82) (off := (-76)) (tgt := 6) hX (by decide) dX2_lay_82 ?_
            refine V_cut [(0, some (.ref (E.1 (12, 0)))), (1, some (.ref (E.1 (1, z)))), (2, some (.int (oI ((k + 1 : Nat) : Int))))] ⟨rfl, rfl, rfl, trivial⟩ ?_
            exact ih (k + 1) _ (by omega) (g2.tr h51.1) (AR.congr h51.2 (fun i _ j _ => pa_a (by omega) i j)) (by omega)
  refine V_aload_n (pc := 0) (j := 1) hX 1 rfl rfl dX2_lay_0 ?_
  refine cVVp0 (pc := 1) hX (c_X0_empty) (by decide) st_X2_22 (ix_1 _) rfl rfl rfl (Nat.le_of_ble_eq_true rfl) dX2_lay_1 (fun D1 h1 => ?_)
  refine V_iconst (pc := 4) (z := 0) hX (oI 0) rfl dX2_lay_4 ?_
  refine V_istore_n (pc := 5) (j := 2) hX 2 rfl (by decide) rfl dX2_lay_5 ?_
  refine V_cut [(0, some (.ref (E.1 (12, 0)))), (1, some (.ref (E.1 (1, z)))), (2, some (.int (oI ((0 : Nat) : Int))))] ⟨rfl, rfl, rfl, trivial⟩ ?_
  exact loop (n + 1) 0 _ (by omega) h1.1 (AR.congr h1.2 (fun _ _ _ _ => rfl)) (by omega)
def RaQ (D : Dt) (n : Nat) (x y : Int) (r : Int32) (D' : Dt) : Prop := r = bI (decide (n < 10)) ∧ (n < 10 → (D'.1 12 2 = oI ((n + 1 : Nat) : Int) ∧ D'.1 13 = upd (D.1 13) n (oI x) ∧ D'.1 14 = upd (D.1 14) n (oI y)) ∧ (∀ t, t ≠ 12 → t ≠ 13 → t ≠ 14 → D'.1 t = D.1 t) ∧ D'.2 = D.2) ∧ (¬ n < 10 → D' = D)
theorem c_X2_add {E : Le} {l : Launch} {D : Dt} {n : Nat} {x y : Int} (hn : D.1 12 2 = oI (n : Int)) (hn2 : n ≤ 10) : ConIp E l yX2_add cX2_add 3 (some .boolean) 1 [.ref (E.1 (12, 0)), .int (oI x), .int (oI y)] D (RaQ D n x y) := by
  refine Con_of (by decide) (Nat.le_of_ble_eq_true rfl) ?_
  intro X hX hR hl; subst hl
  refine V_aload_n (pc := 0) (j := 0) hX 0 rfl rfl dX2_add_0 ?_
  refine gf_X2_18 (pc := 1) hX dX2_add_1 ?_
  refine V_oI (n : Int) hn ?_
  refine V_bipush (pc := 4) (z := 10) hX (oI 10) (by decide) dX2_add_4 ?_
  refine Z_icmp_lt (pc := 6) (tgt := 11) hX (by omega) (by omega) dX2_add_6 (by decide) (fun h6 => ?_) (fun h6 => ?_)
  · refine V_aload_n (pc := 11) (j := 0) hX 0 rfl rfl dX2_add_11 ?_
    refine gf_X2_9 (pc := 12) hX dX2_add_12 ?_
    refine V_aload_n (pc := 15) (j := 0) hX 0 rfl rfl dX2_add_15 ?_
    refine gf_X2_18 (pc := 16) hX dX2_add_16 ?_
    refine V_oI (n : Int) hn ?_
    refine V_iload_n (pc := 19) (j := 1) hX 1 rfl rfl dX2_add_19 ?_
    refine zs_13 (pc := 20) hX (n) (rfl) (by omega) dX2_add_20 ?_
    refine V_aload_n (pc := 21) (j := 0) hX 0 rfl rfl dX2_add_21 ?_
    refine gf_X2_15 (pc := 22) hX dX2_add_22 ?_
    refine V_aload_n (pc := 25) (j := 0) hX 0 rfl rfl dX2_add_25 ?_
    refine gf_X2_18 (pc := 26) hX dX2_add_26 ?_
    refine V_oI (n : Int) hn ?_
    refine V_iload_n (pc := 29) (j := 2) hX 2 rfl rfl dX2_add_29 ?_
    refine zs_14 (pc := 30) hX (n) (rfl) (by omega) dX2_add_30 ?_
    refine V_aload_n (pc := 31) (j := 0) hX 0 rfl rfl dX2_add_31 ?_
    refine V_dup (pc := 32) hX rfl dX2_add_32 ?_
    refine gf_X2_18 (pc := 33) hX dX2_add_33 ?_
    refine V_oI (n : Int) hn ?_
    refine V_iconst (pc := 36) (z := 1) hX (oI 1) rfl dX2_add_36 ?_
    refine Z_iadd (pc := 37) hX dX2_add_37 ?_
    refine pf_X2_18 (pc := 38) hX dX2_add_38 ?_
    refine V_iconst (pc := 41) (z := 1) hX (oI 1) rfl dX2_add_41 ?_
    refine V_zret (pc := 42) hX hR (by decide) dX2_add_42 ?_
    exact ⟨_, rfl, bI_1 (decide_eq_true (by omega)), fun _ => ⟨⟨by rw [rU_get, upd_at, if_pos rfl]; rfl, rfl, rfl⟩, fun t h1 h2 h3 => by rw [rU_ne _ _ h1, rU_ne _ _ h3, rU_ne _ _ h2], rfl⟩, fun h => absurd h (by omega)⟩
  · refine V_iconst (pc := 9) (z := 0) hX (oI 0) rfl dX2_add_9 ?_
    refine V_zret (pc := 10) hX hR (by decide) dX2_add_10 ?_
    exact ⟨_, rfl, bI_0 (decide_eq_false (by omega)), fun h => absurd h (by omega), fun _ => rfl⟩
