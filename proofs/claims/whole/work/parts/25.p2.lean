theorem AR_rest {s t : Nat → Int64} {a c : Nat} {A : Cl} (hA : AR s a A) (h : ∀ k, k < 240 → t (240 * c + k) = ALc &&& (s (240 * a + k) ^^^ -1)) : AR t c (restC A) := by
  refine ⟨fun k hk i hi => by rw [h k hk, tb_and, b60_ALc i hi, Bool.false_and], fun i hi j hj => ?_⟩
  rw [cM, Nat.add_assoc, h _ (by omega), tb_and, tb_all, tb_not _ (by omega), decide_eq_true (by omega), Bool.true_and, restC, ← hA.2 i hi j hj, cM, Nat.add_assoc]
theorem c_X6_rest {E : Le} {l : Launch} {D : Dt} {σ : AS} {a to : Int} (r_a : Rg a) (r_to : Rg to) (hM : Mst D σ) : ConIp E l yX6_rest cX6_rest 4 (some .int) 7 [.ref (E.1 (20, 0)), .int (oI a), .int (oI to)] D (PubP D (restO σ a to)) := by
  refine Con_of (by decide) (Nat.le_of_ble_eq_true rfl) ?_
  intro X hX hR hl; subst hl
  refine V_iload_n (pc := 0) (j := 1) hX 1 rfl rfl dX6_rest_0 ?_
  refine cSI1 (pc := 1) hX (c_X6_isArea (by omega)) (by decide) st_X6_129 (Nat.le_of_ble_eq_true rfl) dX6_rest_1 ?_
  refine B_if_eq (pc := 4) (tgt := 14) hX dX6_rest_4 (by decide) (fun h4 => ?_) (fun h4 => ?_)
  · have q4 := inB_f.mp h4
    refine V_aload_n (pc := 14) (j := 0) hX 0 rfl rfl dX6_rest_14 ?_
    refine V_sipush (pc := 15) (z := (-202)) hX (oI (-202)) (by decide) dX6_rest_15 ?_
    refine cVI1 (pc := 18) hX (c_X6_refuses (by omega)) (by decide) st_X6_105 ix_20 rfl rfl rfl (Nat.le_of_ble_eq_true rfl) dX6_rest_18 ?_
    refine V_iret (pc := 21) hX hR dX6_rest_21 ?_
    exact ⟨_, rfl, by rw [restO, if_neg (by omega)]; exact Pub_bad hM⟩
  · have q4 := inB_t.mp h4
    refine V_iload_n (pc := 7) (j := 2) hX 2 rfl rfl dX6_rest_7 ?_
    refine cSI1 (pc := 8) hX (c_X6_isArea (by omega)) (by decide) st_X6_129 (Nat.le_of_ble_eq_true rfl) dX6_rest_8 ?_
    refine B_if_ne (pc := 11) (tgt := 22) hX dX6_rest_11 (by decide) (fun h11 => ?_) (fun h11 => ?_)
    · have q11 := inB_t.mp h11
      obtain ⟨a, rfl⟩ : ∃ N0 : Nat, a = (N0 : Int) := ⟨a.toNat, by omega⟩
      obtain ⟨b, rfl⟩ : ∃ N0 : Nat, to = (N0 : Int) := ⟨to.toNat, by omega⟩
      have loop : ∀ (m : Nat) (k : Nat) (D1 : Dt), k ≤ 240 → D1 = lU D 21 0 (blk (D.2.1 21 0) 5 (fun k => ALc &&& (D.2.1 21 0 (240 * a + k) ^^^ -1)) k) → 240 - k < m → Vw E X 4 D1 24 [(0, some (.ref (E.1 (20, 0)))), (1, some (.int (oI (a : Int)))), (2, some (.int (oI (b : Int)))), (3, some (.int (oI (k : Int))))] [] := by
        intro m
        induction m with
        | zero => intro k D1 g1 g2 g3; omega
        | succ m ih =>
          intro k D1 g1 g2 g3
          refine V_iload_n (pc := 24) (j := 3) hX 3 rfl rfl dX6_rest_24 ?_
          refine V_sipush (pc := 25) (z := 240) hX (oI 240) (by decide) dX6_rest_25 ?_
          refine Z_icmp_ge (pc := 28) (tgt := 67) hX (by omega) (by omega) dX6_rest_28 (by decide) (fun h28 => ?_) (fun h28 => ?_)
          · have e : k = 240 := by omega
            subst e
            have hT : AR (D1.2.1 21 0) 5 (restC (σ.1 a)) := by rw [g2, lU_get]; exact AR_rest (hM.1 a (by omega)).1 (fun k hk => blk_in hk)
            refine V_aload_n (pc := 67) (j := 0) hX 0 rfl rfl dX6_rest_67 ?_
            refine V_aload_n (pc := 68) (j := 0) hX 0 rfl rfl dX6_rest_68 ?_
            refine V_iload_n (pc := 69) (j := 2) hX 2 rfl rfl dX6_rest_69 ?_
            refine cVIp1 (pc := 70) hX (c_X6_becomes (b := b) (T := restC (σ.1 a)) (by omega) hT) (by decide) st_X6_114 ix_20 rfl rfl rfl (Nat.le_of_ble_eq_true rfl) dX6_rest_70 (fun r70 D70 h70 => ?_)
            obtain ⟨v, rfl, hv, hP⟩ : ∃ v, r70 = oI v ∧ Rg v ∧ PubP D (restO σ (a : Int) (b : Int)) (oI v) (rU D70 22 (endS (D70.1 22) v)) := by
              rw [restO, if_pos (by omega), Int.toNat_natCast, Int.toNat_natCast]
              exact Pub_mk hM (by omega) (h70.from (by rw [g2]; exact Fr_lU D _) (by rw [g2, lU_get]; exact Out5_blk.o8))
            refine cVI1 (pc := 73) hX (c_X6_ends hv) (by decide) st_X6_136 ix_20 rfl rfl rfl (Nat.le_of_ble_eq_true rfl) dX6_rest_73 ?_
            refine V_iret (pc := 76) hX hR dX6_rest_76 ?_
            exact ⟨_, rfl, hP⟩
          · refine V_aload_n (pc := 31) (j := 0) hX 0 rfl rfl dX6_rest_31 ?_
            refine gf_X6_7 (pc := 32) hX dX6_rest_32 ?_
            refine V_sipush (pc := 35) (z := 1200) hX (oI 1200) (by decide) dX6_rest_35 ?_
            refine V_iload_n (pc := 38) (j := 3) hX 3 rfl rfl dX6_rest_38 ?_
            refine Z_iadd (pc := 39) hX dX6_rest_39 ?_
            refine V_ldc2 (pc := 40) hX (1152921504606846975) w_888 dX6_rest_40 ?_
            refine V_aload_n (pc := 43) (j := 0) hX 0 rfl rfl dX6_rest_43 ?_
            refine gf_X6_7 (pc := 44) hX dX6_rest_44 ?_
            refine V_sipush (pc := 47) (z := 240) hX (oI 240) (by decide) dX6_rest_47 ?_
            refine V_iload_n (pc := 50) (j := 1) hX 1 rfl rfl dX6_rest_50 ?_
            refine Z_imul (pc := 51) hX dX6_rest_51 ?_
            refine V_iload_n (pc := 52) (j := 3) hX 3 rfl rfl dX6_rest_52 ?_
            refine Z_iadd (pc := 53) hX dX6_rest_53 ?_
            refine zl_21 (pc := 54) hX (240 * a + k) (by omega) (by omega) dX6_rest_54 ?_
            refine V_ldc2 (pc := 55) hX (-1) w_867 dX6_rest_55 ?_
            refine V_lxor (pc := 58) hX dX6_rest_58 ?_
            refine V_land (pc := 59) hX dX6_rest_59 ?_
            refine zs_21 (pc := 60) hX (240 * 5 + k) (by omega) (by omega) dX6_rest_60 ?_
            refine Z_iinc (pc := 61) hX 1 rfl rfl dX6_rest_61 ?_
            refine V_goto (pc := 64) (off := (-40)) (tgt := 24) hX (by decide) dX6_rest_64 ?_
            refine V_cut [(0, some (.ref (E.1 (20, 0)))), (1, some (.int (oI (a : Int)))), (2, some (.int (oI (b : Int)))), (3, some (.int (oI ((k + 1 : Nat) : Int))))] ⟨rfl, rfl, rfl, rfl, trivial⟩ ?_
            refine ih (k + 1) _ (by omega) ?_ (by omega)
            rw [g2, lU_get, lU_lU, ← blk_s, blk_out (by omega)]
      refine V_iconst (pc := 22) (z := 0) hX (oI 0) rfl dX6_rest_22 ?_
      refine V_istore_n (pc := 23) (j := 3) hX 3 rfl (by decide) rfl dX6_rest_23 ?_
      refine V_cut [(0, some (.ref (E.1 (20, 0)))), (1, some (.int (oI (a : Int)))), (2, some (.int (oI (b : Int)))), (3, some (.int (oI ((0 : Nat) : Int))))] ⟨rfl, rfl, rfl, rfl, trivial⟩ ?_
      exact loop 241 0 D (by omega) (by rw [blk_0, lU_self]) (by omega)
    · have q11 := inB_f.mp h11
      refine V_aload_n (pc := 14) (j := 0) hX 0 rfl rfl dX6_rest_14 ?_
      refine V_sipush (pc := 15) (z := (-202)) hX (oI (-202)) (by decide) dX6_rest_15 ?_
      refine cVI1 (pc := 18) hX (c_X6_refuses (by omega)) (by decide) st_X6_105 ix_20 rfl rfl rfl (Nat.le_of_ble_eq_true rfl) dX6_rest_18 ?_
      refine V_iret (pc := 21) hX hR dX6_rest_21 ?_
      exact ⟨_, rfl, by rw [restO, if_neg (by omega)]; exact Pub_bad hM⟩
theorem c_X6_part {E : Le} {l : Launch} {D : Dt} {σ : AS} {a x y to : Int} (r_a : Rg a) (r_x : Rg x) (r_y : Rg y) (r_to : Rg to) (hM : Mst D σ) : ConIp E l yX6_part cX6_part 5 (some .int) 7 [.ref (E.1 (20, 0)), .int (oI a), .int (oI x), .int (oI y), .int (oI to)] D (PubP D (partO σ a x y to)) := by
  refine Con_of (by decide) (Nat.le_of_ble_eq_true rfl) ?_
  intro X hX hR hl; subst hl
  refine V_iload_n (pc := 0) (j := 1) hX 1 rfl rfl dX6_part_0 ?_
  refine cSI1 (pc := 1) hX (c_X6_isArea (by omega)) (by decide) st_X6_129 (Nat.le_of_ble_eq_true rfl) dX6_part_1 ?_
  refine B_if_eq (pc := 4) (tgt := 23) hX dX6_part_4 (by decide) (fun h4 => ?_) (fun h4 => ?_)
  · have q4 := inB_f.mp h4
    refine V_aload_n (pc := 23) (j := 0) hX 0 rfl rfl dX6_part_23 ?_
    refine V_sipush (pc := 24) (z := (-202)) hX (oI (-202)) (by decide) dX6_part_24 ?_
    refine cVI1 (pc := 27) hX (c_X6_refuses (by omega)) (by decide) st_X6_105 ix_20 rfl rfl rfl (Nat.le_of_ble_eq_true rfl) dX6_part_27 ?_
    refine V_iret (pc := 30) hX hR dX6_part_30 ?_
    exact ⟨_, rfl, by rw [partO, if_neg (by omega)]; exact Pub_bad hM⟩
  · have q4 := inB_t.mp h4
    refine V_iload_n (pc := 7) (j := 2) hX 2 rfl rfl dX6_part_7 ?_
    refine V_iload_n (pc := 8) (j := 3) hX 3 rfl rfl dX6_part_8 ?_
    refine cSI2 (pc := 9) hX (c_X6_isCell (by omega) (by omega)) (by decide) st_X6_37 (Nat.le_of_ble_eq_true rfl) dX6_part_9 ?_
    refine B_if_eq (pc := 12) (tgt := 23) hX dX6_part_12 (by decide) (fun h12 => ?_) (fun h12 => ?_)
    · have q12 := cellB_f.mp h12
      refine V_aload_n (pc := 23) (j := 0) hX 0 rfl rfl dX6_part_23 ?_
      refine V_sipush (pc := 24) (z := (-202)) hX (oI (-202)) (by decide) dX6_part_24 ?_
      refine cVI1 (pc := 27) hX (c_X6_refuses (by omega)) (by decide) st_X6_105 ix_20 rfl rfl rfl (Nat.le_of_ble_eq_true rfl) dX6_part_27 ?_
      refine V_iret (pc := 30) hX hR dX6_part_30 ?_
      exact ⟨_, rfl, by rw [partO, if_neg (by omega)]; exact Pub_bad hM⟩
    · have q12 := cellB_t.mp h12
      refine V_iload (pc := 15) hX rfl dX6_part_15 ?_
      refine cSI1 (pc := 17) hX (c_X6_isArea (by omega)) (by decide) st_X6_129 (Nat.le_of_ble_eq_true rfl) dX6_part_17 ?_
      refine B_if_ne (pc := 20) (tgt := 31) hX dX6_part_20 (by decide) (fun h20 => ?_) (fun h20 => ?_)
      · have q20 := inB_t.mp h20
        obtain ⟨a, rfl⟩ : ∃ N0 : Nat, a = (N0 : Int) := ⟨a.toNat, by omega⟩
        obtain ⟨b, rfl⟩ : ∃ N0 : Nat, to = (N0 : Int) := ⟨to.toNat, by omega⟩
        refine V_aload_n (pc := 31) (j := 0) hX 0 rfl rfl dX6_part_31 ?_
        refine V_iload_n (pc := 32) (j := 1) hX 1 rfl rfl dX6_part_32 ?_
        refine V_iload_n (pc := 33) (j := 2) hX 2 rfl rfl dX6_part_33 ?_
        refine V_iload_n (pc := 34) (j := 3) hX 3 rfl rfl dX6_part_34 ?_
        refine cVI3 (pc := 35) hX (c_X6_has (a := a) (by omega) (by omega) (by omega)) (by decide) st_X6_65 ix_20 rfl rfl rfl (Nat.le_of_ble_eq_true rfl) dX6_part_35 ?_
        refine B_if_ne (pc := 38) (tgt := 49) hX dX6_part_38 (by decide) (fun h38 => ?_) (fun h38 => ?_)
        · rw [AR_has (hM.1 a (by omega)).1, rpC, cellB_t.mpr (by omega), Bool.true_and] at h38
          refine V_aload_n (pc := 49) (j := 0) hX 0 rfl rfl dX6_part_49 ?_
          refine V_iload_n (pc := 50) (j := 1) hX 1 rfl rfl dX6_part_50 ?_
          refine V_bipush (pc := 51) (z := 7) hX (oI 7) (by decide) dX6_part_51 ?_
          refine cVV2 (pc := 53) hX (c_X6_copies (a := a) (b := 7) (by omega) (by omega)) (by decide) st_X6_97 ix_20 rfl rfl rfl (Nat.le_of_ble_eq_true rfl) dX6_part_53 ?_
          refine V_aload_n (pc := 56) (j := 0) hX 0 rfl rfl dX6_part_56 ?_
          refine V_iconst (pc := 57) (z := 5) hX (oI 5) rfl dX6_part_57 ?_
          refine cVV1 (pc := 58) hX (c_X6_empties (a := 5) (by omega)) (by decide) st_X6_108 ix_20 rfl rfl rfl (Nat.le_of_ble_eq_true rfl) dX6_part_58 ?_
          refine V_aload_n (pc := 61) (j := 0) hX 0 rfl rfl dX6_part_61 ?_
          refine V_iconst (pc := 62) (z := 5) hX (oI 5) rfl dX6_part_62 ?_
          refine V_iload_n (pc := 63) (j := 2) hX 2 rfl rfl dX6_part_63 ?_
          refine V_iload_n (pc := 64) (j := 3) hX 3 rfl rfl dX6_part_64 ?_
          refine cVV3 (pc := 65) hX (c_X6_lays (a := 5) (by omega) (by omega) (by omega)) (by decide) st_X6_117 ix_20 rfl rfl rfl (Nat.le_of_ble_eq_true rfl) dX6_part_65 ?_
          obtain ⟨p, hpe⟩ : ∃ p, p = (x + 60).toNat := ⟨_, rfl⟩
          obtain ⟨q, hqe⟩ : ∃ q, q = (y + 60).toNat := ⟨_, rfl⟩
          have hp : p < 120 := by omega
          have hq : q < 120 := by omega
          obtain ⟨D3, hD3⟩ : ∃ d, d = lU (lU (lU D 21 0 (blk (D.2.1 21 0) 7 (fun i => D.2.1 21 0 (240 * a + i)) 240)) 21 0 (blk ((lU D 21 0 (blk (D.2.1 21 0) 7 (fun i => D.2.1 21 0 (240 * a + i)) 240)).2.1 21 0) 5 (fun _ => 0) 240)) 21 0 (setM ((lU (lU D 21 0 (blk (D.2.1 21 0) 7 (fun i => D.2.1 21 0 (240 * a + i)) 240)) 21 0 (blk ((lU D 21 0 (blk (D.2.1 21 0) 7 (fun i => D.2.1 21 0 (240 * a + i)) 240)).2.1 21 0) 5 (fun _ => 0) 240)).2.1 21 0) 5 (x + 60).toNat (y + 60).toNat) := ⟨_, rfl⟩
          refine V_heap hD3.symm ?_
          rw [← hpe, ← hqe] at hD3 h38
          simp only [lU_get, lU_lU] at hD3
          have hS5 : AR (D3.2.1 21 0) 5 (oneC p q) := by rw [hD3, lU_get]; exact AR_one hp hq
          have hO5 : Out5 (blk (D.2.1 21 0) 7 (fun i => D.2.1 21 0 (240 * a + i)) 240) (D3.2.1 21 0) := by rw [hD3, lU_get]; exact Out5_blk.tr (Out5_set hp hq)
          have hA7 : AR (D3.2.1 21 0) 7 (σ.1 a) := (hM.1 a (by omega)).1.same (fun k hk => by rw [hO5 _ (by omega), blk_in hk])
          have hsub : Sub (oneC p q) (σ.1 a) := fun i hi j hj e => by obtain ⟨e1, e2⟩ := of_decide_eq_true e; rw [e1, e2]; exact h38
          have hF3 : Fr D D3 := by rw [hD3]; exact Fr_lU D _
          have hO3 : Out8 (D.2.1 21 0) (D3.2.1 21 0) := fun k hk => by rw [hO5 k (by omega), blk_out (by omega)]
          refine V_aload_n (pc := 68) (j := 0) hX 0 rfl rfl dX6_part_68 ?_
          refine cVVp0 (pc := 69) hX (c_X6_hangs (A := σ.1 a) (S0 := oneC p q) hA7 hS5 hsub) (by decide) st_X6_153 ix_20 rfl rfl rfl (Nat.le_of_ble_eq_true rfl) dX6_part_69 (fun D69 h69 => ?_)
          obtain ⟨t, T, rfl, hO, hT5, hH⟩ := h69
          have hT : AR ((lU D3 21 0 t).2.1 21 0) 5 (partC (σ.1 a) p q) := by rw [lU_get]; exact hT5.congr (fun i hi j hj => Hng_part hp hq hH hi hj)
          refine V_aload_n (pc := 72) (j := 0) hX 0 rfl rfl dX6_part_72 ?_
          refine V_aload_n (pc := 73) (j := 0) hX 0 rfl rfl dX6_part_73 ?_
          refine V_iload (pc := 74) hX rfl dX6_part_74 ?_
          refine cVIp1 (pc := 76) hX (c_X6_becomes (b := b) (by omega) hT) (by decide) st_X6_114 ix_20 rfl rfl rfl (Nat.le_of_ble_eq_true rfl) dX6_part_76 (fun r76 D76 h76 => ?_)
          obtain ⟨v, rfl, hv, hP⟩ : ∃ v, r76 = oI v ∧ Rg v ∧ PubP D (partO σ (a : Int) x y (b : Int)) (oI v) (rU D76 22 (endS (D76.1 22) v)) := by
            rw [partO, if_pos (by omega), Int.toNat_natCast, Int.toNat_natCast, ← hpe, ← hqe, h38, if_pos rfl]
            exact Pub_mk hM (by omega) (h76.from (hF3.tr (Fr_lU _ _)) (by rw [lU_get]; exact hO3.tr hO.o8))
          refine cVI1 (pc := 79) hX (c_X6_ends hv) (by decide) st_X6_136 ix_20 rfl rfl rfl (Nat.le_of_ble_eq_true rfl) dX6_part_79 ?_
          refine V_iret (pc := 82) hX hR dX6_part_82 ?_
          exact ⟨_, rfl, hP⟩
        · rw [AR_has (hM.1 a (by omega)).1, rpC, cellB_t.mpr (by omega), Bool.true_and] at h38
          refine V_aload_n (pc := 41) (j := 0) hX 0 rfl rfl dX6_part_41 ?_
          refine V_sipush (pc := 42) (z := (-203)) hX (oI (-203)) (by decide) dX6_part_42 ?_
          refine cVI1 (pc := 45) hX (c_X6_refuses (by omega)) (by decide) st_X6_105 ix_20 rfl rfl rfl (Nat.le_of_ble_eq_true rfl) dX6_part_45 ?_
          refine V_iret (pc := 48) hX hR dX6_part_48 ?_
          exact ⟨_, rfl, by rw [partO, if_pos (by omega), Int.toNat_natCast, h38, if_neg (by decide)]; exact Pub_no0 hM⟩
      · have q20 := inB_f.mp h20
        refine V_aload_n (pc := 23) (j := 0) hX 0 rfl rfl dX6_part_23 ?_
        refine V_sipush (pc := 24) (z := (-202)) hX (oI (-202)) (by decide) dX6_part_24 ?_
        refine cVI1 (pc := 27) hX (c_X6_refuses (by omega)) (by decide) st_X6_105 ix_20 rfl rfl rfl (Nat.le_of_ble_eq_true rfl) dX6_part_27 ?_
        refine V_iret (pc := 30) hX hR dX6_part_30 ?_
        exact ⟨_, rfl, by rw [partO, if_neg (by omega)]; exact Pub_bad hM⟩
def cornO (σ : AS) (x y : Int) : Int × AS := if (-60 ≤ x ∧ x ≤ 60) ∧ -60 ≤ y ∧ y ≤ 60 then (if σ.2.2.2.1 = 10 then (-204, refA σ (-204)) else (((σ.2.2.2.1 + 1 : Nat) : Int), (σ.1, σ.2.1, σ.2.2.1, (σ.2.2.2.1 + 1, (fun k => if k = σ.2.2.2.1 then x else σ.2.2.2.2.1 k), (fun k => if k = σ.2.2.2.1 then y else σ.2.2.2.2.2 k))))) else badA σ
theorem MR.corn {D : Dt} {σ : AS} (h : MR D σ) {x y : Int} (hx : -60 ≤ x ∧ x ≤ 60) (hy : -60 ≤ y ∧ y ≤ 60) (hn : σ.2.2.2.1 < 10) : MR (rU (rU (rU D 24 (upd (D.1 24) σ.2.2.2.1 (oI x))) 25 (upd (D.1 25) σ.2.2.2.1 (oI y))) 20 (upd (D.1 20) 6 (oI ((σ.2.2.2.1 + 1 : Nat) : Int)))) (σ.1, σ.2.1, σ.2.2.1, (σ.2.2.2.1 + 1, (fun k => if k = σ.2.2.2.1 then x else σ.2.2.2.2.1 k), (fun k => if k = σ.2.2.2.1 then y else σ.2.2.2.2.2 k))) := by
  obtain ⟨h1, h2, h3, h4⟩ := h
  refine ⟨h1, h2, ⟨rfl, by show σ.2.2.2.1 + 1 ≤ 10; omega, fun k hk => ?_⟩, h4⟩
  have hk : k < σ.2.2.2.1 + 1 := hk
  show ((if k = σ.2.2.2.1 then oI x else D.1 24 k) = oI (if k = σ.2.2.2.1 then x else σ.2.2.2.2.1 k) ∧ -60 ≤ (if k = σ.2.2.2.1 then x else σ.2.2.2.2.1 k) ∧ (if k = σ.2.2.2.1 then x else σ.2.2.2.2.1 k) ≤ 60) ∧ ((if k = σ.2.2.2.1 then oI y else D.1 25 k) = oI (if k = σ.2.2.2.1 then y else σ.2.2.2.2.2 k) ∧ -60 ≤ (if k = σ.2.2.2.1 then y else σ.2.2.2.2.2 k) ∧ (if k = σ.2.2.2.1 then y else σ.2.2.2.2.2 k) ≤ 60)
  by_cases e : k = σ.2.2.2.1
  · simp only [if_pos e]
    exact ⟨⟨trivial, hx⟩, trivial, hy⟩
  · simp only [if_neg e]
    exact h3.2.2 k (by omega)
theorem c_X6_corner {E : Le} {l : Launch} {D : Dt} {σ : AS} {x y : Int} (r_x : Rg x) (r_y : Rg y) (hM : Mst D σ) : ConIp E l yX6_corner cX6_corner 3 (some .int) 2 [.ref (E.1 (20, 0)), .int (oI x), .int (oI y)] D (PubP D (cornO σ x y)) := by
  refine Con_of (by decide) (Nat.le_of_ble_eq_true rfl) ?_
  intro X hX hR hl; subst hl
  have h10 := hM.2.2.2.1.2.1
  refine V_iload_n (pc := 0) (j := 1) hX 1 rfl rfl dX6_corner_0 ?_
  refine V_bipush (pc := 1) (z := (-60)) hX (oI (-60)) (by decide) dX6_corner_1 ?_
  refine V_bipush (pc := 3) (z := 60) hX (oI 60) (by decide) dX6_corner_3 ?_
  refine cSI3 (pc := 5) hX (c_X6_in (by omega) (by omega) (by omega)) (by decide) st_X6_33 (Nat.le_of_ble_eq_true rfl) dX6_corner_5 ?_
  refine B_if_eq (pc := 8) (tgt := 22) hX dX6_corner_8 (by decide) (fun h8 => ?_) (fun h8 => ?_)
  · have q8 := inB_f.mp h8
    refine V_aload_n (pc := 22) (j := 0) hX 0 rfl rfl dX6_corner_22 ?_
    refine V_sipush (pc := 23) (z := (-202)) hX (oI (-202)) (by decide) dX6_corner_23 ?_
    refine cVI1 (pc := 26) hX (c_X6_refuses (by omega)) (by decide) st_X6_105 ix_20 rfl rfl rfl (Nat.le_of_ble_eq_true rfl) dX6_corner_26 ?_
    refine V_iret (pc := 29) hX hR dX6_corner_29 ?_
    exact ⟨_, rfl, by rw [cornO, if_neg (by omega)]; exact Pub_bad hM⟩
  · have q8 := inB_t.mp h8
    refine V_iload_n (pc := 11) (j := 2) hX 2 rfl rfl dX6_corner_11 ?_
    refine V_bipush (pc := 12) (z := (-60)) hX (oI (-60)) (by decide) dX6_corner_12 ?_
    refine V_bipush (pc := 14) (z := 60) hX (oI 60) (by decide) dX6_corner_14 ?_
    refine cSI3 (pc := 16) hX (c_X6_in (by omega) (by omega) (by omega)) (by decide) st_X6_33 (Nat.le_of_ble_eq_true rfl) dX6_corner_16 ?_
    refine B_if_ne (pc := 19) (tgt := 30) hX dX6_corner_19 (by decide) (fun h19 => ?_) (fun h19 => ?_)
    · have q19 := inB_t.mp h19
      refine V_aload_n (pc := 30) (j := 0) hX 0 rfl rfl dX6_corner_30 ?_
      refine gf_X6_156 (pc := 31) hX dX6_corner_31 ?_
      refine V_oI (σ.2.2.2.1 : Int) hM.2.2.2.1.1 ?_
      refine V_bipush (pc := 34) (z := 10) hX (oI 10) (by decide) dX6_corner_34 ?_
      refine Z_icmp_ne (pc := 36) (tgt := 47) hX (by omega) (by omega) dX6_corner_36 (by decide) (fun h36 => ?_) (fun h36 => ?_)
      · refine V_aload_n (pc := 47) (j := 0) hX 0 rfl rfl dX6_corner_47 ?_
        refine gf_X6_20 (pc := 48) hX dX6_corner_48 ?_
        refine V_aload_n (pc := 51) (j := 0) hX 0 rfl rfl dX6_corner_51 ?_
        refine gf_X6_156 (pc := 52) hX dX6_corner_52 ?_
        refine V_oI (σ.2.2.2.1 : Int) hM.2.2.2.1.1 ?_
        refine V_iload_n (pc := 55) (j := 1) hX 1 rfl rfl dX6_corner_55 ?_
        refine zs_24 (pc := 56) hX (σ.2.2.2.1) (rfl) (by have := hM.2.2.2.1.2.1; omega) dX6_corner_56 ?_
        refine V_aload_n (pc := 57) (j := 0) hX 0 rfl rfl dX6_corner_57 ?_
        refine gf_X6_23 (pc := 58) hX dX6_corner_58 ?_
        refine V_aload_n (pc := 61) (j := 0) hX 0 rfl rfl dX6_corner_61 ?_
        refine gf_X6_156 (pc := 62) hX dX6_corner_62 ?_
        refine V_oI (σ.2.2.2.1 : Int) hM.2.2.2.1.1 ?_
        refine V_iload_n (pc := 65) (j := 2) hX 2 rfl rfl dX6_corner_65 ?_
        refine zs_25 (pc := 66) hX (σ.2.2.2.1) (rfl) (by have := hM.2.2.2.1.2.1; omega) dX6_corner_66 ?_
        refine V_aload_n (pc := 67) (j := 0) hX 0 rfl rfl dX6_corner_67 ?_
        refine V_dup (pc := 68) hX rfl dX6_corner_68 ?_
        refine gf_X6_156 (pc := 69) hX dX6_corner_69 ?_
        refine V_oI (σ.2.2.2.1 : Int) hM.2.2.2.1.1 ?_
        refine V_iconst (pc := 72) (z := 1) hX (oI 1) rfl dX6_corner_72 ?_
        refine Z_iadd (pc := 73) hX dX6_corner_73 ?_
        refine pf_X6_156 (pc := 74) hX dX6_corner_74 ?_
        refine V_heap (D' := rU (rU (rU D 24 (upd (D.1 24) σ.2.2.2.1 (oI x))) 25 (upd (D.1 25) σ.2.2.2.1 (oI y))) 20 (upd (D.1 20) 6 (oI ((σ.2.2.2.1 + 1 : Nat) : Int)))) rfl ?_
        refine V_aload_n (pc := 77) (j := 0) hX 0 rfl rfl dX6_corner_77 ?_
        refine gf_X6_156 (pc := 78) hX dX6_corner_78 ?_
        refine V_oI (((σ.2.2.2.1 + 1 : Nat)) : Int) rfl ?_
        refine V_iret (pc := 81) hX hR dX6_corner_81 ?_
        exact ⟨_, rfl, by rw [cornO, if_pos (by omega), if_neg (by omega)]; exact ⟨rfl, ⟨hM.1, hM.2.corn (by omega) (by omega) (by omega)⟩, ((CK_rU D (by decide) _).tr (CK_rU _ (by decide) _)).tr (CK_rU _ (by decide) _)⟩⟩
      · refine V_aload_n (pc := 39) (j := 0) hX 0 rfl rfl dX6_corner_39 ?_
        refine V_sipush (pc := 40) (z := (-204)) hX (oI (-204)) (by decide) dX6_corner_40 ?_
        refine cVI1 (pc := 43) hX (c_X6_refuses (by omega)) (by decide) st_X6_105 ix_20 rfl rfl rfl (Nat.le_of_ble_eq_true rfl) dX6_corner_43 ?_
        refine V_iret (pc := 46) hX hR dX6_corner_46 ?_
        exact ⟨_, rfl, by rw [cornO, if_pos (by omega), if_pos (by omega)]; exact ⟨rfl, hM.ref (by omega), CK_rU D (by decide) _⟩⟩
    · have q19 := inB_f.mp h19
      refine V_aload_n (pc := 22) (j := 0) hX 0 rfl rfl dX6_corner_22 ?_
      refine V_sipush (pc := 23) (z := (-202)) hX (oI (-202)) (by decide) dX6_corner_23 ?_
      refine cVI1 (pc := 26) hX (c_X6_refuses (by omega)) (by decide) st_X6_105 ix_20 rfl rfl rfl (Nat.le_of_ble_eq_true rfl) dX6_corner_26 ?_
      refine V_iret (pc := 29) hX hR dX6_corner_29 ?_
      exact ⟨_, rfl, by rw [cornO, if_neg (by omega)]; exact Pub_bad hM⟩
