/-! the drawn numbers -/
def lcN (n : Nat) : Nat := (n * 1103515245 + 12345) % 2147483648
def lcR : Nat → Nat → Nat
  | 0, n => n
  | k + 1, n => lcN (lcR k n)
theorem lcR_s (k n : Nat) : lcR (k + 1) n = lcN (lcR k n) := rfl
def dB (n : Nat) : Cl := boxC (((n / 65536 % 40 : Nat) : Int) - 25) (((n / 4096 % 40 : Nat) : Int) - 25) (((n / 1024 % 12 : Nat) : Int) + 1) (((n / 32 % 12 : Nat) : Int) + 1)
def drS : Nat → Nat → Cl → Cl
  | 0, _, S => S
  | k + 1, n, S => fun i j => drS k n S i j || dB (lcR (k + 1) n) i j
def drawC (seed n : Nat) : Cl := drS n seed (fun _ _ => false)
theorem lcN_lt (n : Nat) : lcN n < 2147483648 := Nat.mod_lt _ (by decide)
theorem rep_lt {seed : Nat} (h : seed < 2147483648) : ∀ k, lcR k seed < 2147483648 := by
  intro k
  cases k with
  | zero => exact h
  | succ k => rw [lcR_s]; exact lcN_lt _
theorem lN_lit (n : Nat) : (OfNat.ofNat n : Int64) = lN n := rfl
theorem lc_step {n : Nat} (h : n < 2147483648) : (lN n * 1103515245 + 12345) - (lN n * 1103515245 + 12345) / 2147483648 * 2147483648 = lN (lcN n) := by
  have e : lN n * 1103515245 + 12345 = lN (n * 1103515245 + 12345) := by
    rw [show (1103515245 : Int64) = lN 1103515245 from rfl, show (12345 : Int64) = lN 12345 from rfl, lN_mul, lN_add]
  rw [e, show (2147483648 : Int64) = lN 2147483648 from rfl, pk_lRem (by omega) (by omega) (by omega)]
  rfl
theorem lc_div {n p q : Nat} (h : n < 2147483648) (hp : 0 < p) (hp2 : p < 2 ^ 31) (hq : 0 < q) (hq2 : q < 2 ^ 31) : (lN n / lN p - lN n / lN p / lN q * lN q).toInt32 = oI ((n / p % q : Nat) : Int) := by
  have hd : n / p ≤ n := Nat.div_le_self _ _
  rw [pk_lDiv (by omega) hp (by omega), pk_lRem (by omega) hq (by omega), lN_i, oI_nat]
def drawO (σ : AS) (seed n to : Int) : Int × AS := if ((0 ≤ seed ∧ seed ≤ 999999) ∧ (1 ≤ n ∧ n ≤ 9) ∧ 0 ≤ to ∧ to ≤ 4) then mkA σ (drawC seed.toNat n.toNat) to.toNat else badA σ
theorem c_X6_draw {E : Le} {l : Launch} {D : Dt} {σ : AS} {seed n to : Int} (r_s : Rg seed) (r_n : Rg n) (r_to : Rg to) (hM : Mst D σ) : ConIp E l yX6_draw cX6_draw 7 (some .int) 7 [.ref (E.1 (20, 0)), .int (oI seed), .int (oI n), .int (oI to)] D (PubP D (drawO σ seed n to)) := by
  refine Con_of (by decide) (Nat.le_of_ble_eq_true rfl) ?_
  intro X hX hR hl; subst hl
  refine V_iload_n (pc := 0) (j := 1) hX 1 rfl rfl dX6_draw_0 ?_
  refine V_iconst (pc := 1) (z := 0) hX (oI 0) rfl dX6_draw_1 ?_
  refine V_ldc (pc := 2) hX 999999 w_925 dX6_draw_2 ?_
  refine V_oI 999999 (by decide) ?_
  refine cSI3 (pc := 4) hX (c_X6_in (by omega) (by omega) (by omega)) (by decide) st_X6_33 (Nat.le_of_ble_eq_true rfl) dX6_draw_4 ?_
  refine B_if_eq (pc := 7) (tgt := 27) hX dX6_draw_7 (by decide) (fun h7 => ?_) (fun h7 => ?_)
  · have q7 := inB_f.mp h7
    refine V_aload_n (pc := 27) (j := 0) hX 0 rfl rfl dX6_draw_27 ?_
    refine V_sipush (pc := 28) (z := (-202)) hX (oI (-202)) (by decide) dX6_draw_28 ?_
    refine cVI1 (pc := 31) hX (c_X6_refuses (by omega)) (by decide) st_X6_105 ix_20 rfl rfl rfl (Nat.le_of_ble_eq_true rfl) dX6_draw_31 ?_
    refine V_iret (pc := 34) hX hR dX6_draw_34 ?_
    exact ⟨_, rfl, by rw [drawO, if_neg (by omega)]; exact Pub_bad hM⟩
  · have q7 := inB_t.mp h7
    refine V_iload_n (pc := 10) (j := 2) hX 2 rfl rfl dX6_draw_10 ?_
    refine V_iconst (pc := 11) (z := 1) hX (oI 1) rfl dX6_draw_11 ?_
    refine V_bipush (pc := 12) (z := 9) hX (oI 9) (by decide) dX6_draw_12 ?_
    refine cSI3 (pc := 14) hX (c_X6_in (by omega) (by omega) (by omega)) (by decide) st_X6_33 (Nat.le_of_ble_eq_true rfl) dX6_draw_14 ?_
    refine B_if_eq (pc := 17) (tgt := 27) hX dX6_draw_17 (by decide) (fun h17 => ?_) (fun h17 => ?_)
    · have q17 := inB_f.mp h17
      refine V_aload_n (pc := 27) (j := 0) hX 0 rfl rfl dX6_draw_27 ?_
      refine V_sipush (pc := 28) (z := (-202)) hX (oI (-202)) (by decide) dX6_draw_28 ?_
      refine cVI1 (pc := 31) hX (c_X6_refuses (by omega)) (by decide) st_X6_105 ix_20 rfl rfl rfl (Nat.le_of_ble_eq_true rfl) dX6_draw_31 ?_
      refine V_iret (pc := 34) hX hR dX6_draw_34 ?_
      exact ⟨_, rfl, by rw [drawO, if_neg (by omega)]; exact Pub_bad hM⟩
    · have q17 := inB_t.mp h17
      refine V_iload_n (pc := 20) (j := 3) hX 3 rfl rfl dX6_draw_20 ?_
      refine cSI1 (pc := 21) hX (c_X6_isArea (by omega)) (by decide) st_X6_129 (Nat.le_of_ble_eq_true rfl) dX6_draw_21 ?_
      refine B_if_ne (pc := 24) (tgt := 35) hX dX6_draw_24 (by decide) (fun h24 => ?_) (fun h24 => ?_)
      · have q24 := inB_t.mp h24
        obtain ⟨sd, rfl⟩ : ∃ N0 : Nat, seed = (N0 : Int) := ⟨seed.toNat, by omega⟩
        obtain ⟨nn, rfl⟩ : ∃ N0 : Nat, n = (N0 : Int) := ⟨n.toNat, by omega⟩
        obtain ⟨b, rfl⟩ : ∃ N0 : Nat, to = (N0 : Int) := ⟨to.toNat, by omega⟩
        have loop : ∀ (m : Nat) (k : Nat) (D1 : Dt), k ≤ nn → (Fr D D1 ∧ Out8 (D.2.1 21 0) (D1.2.1 21 0) ∧ AR (D1.2.1 21 0) 5 (drS k sd (fun _ _ => false))) → nn - k < m → Vw E X 7 D1 47 [(0, some (.ref (E.1 (20, 0)))), (1, some (.int (oI (sd : Int)))), (2, some (.int (oI (nn : Int)))), (3, some (.int (oI (b : Int)))), (4, some (.long (lN (lcR k sd)))), (6, some (.int (oI (k : Int))))] [] := by
          intro m
          induction m with
          | zero => intro k D1 g1 g2 g3; omega
          | succ m ih =>
            intro k D1 g1 g2 g3
            refine V_iload (pc := 47) hX rfl dX6_draw_47 ?_
            refine V_iload_n (pc := 49) (j := 2) hX 2 rfl rfl dX6_draw_49 ?_
            refine Z_icmp_ge (pc := 50) (tgt := 133) hX (by omega) (by omega) dX6_draw_50 (by decide) (fun h50 => ?_) (fun h50 => ?_)
            · have e : k = nn := by omega
              subst e
              have hT : AR (D1.2.1 21 0) 5 (drawC sd k) := g2.2.2
              refine V_aload_n (pc := 133) (j := 0) hX 0 rfl rfl dX6_draw_133 ?_
              refine V_aload_n (pc := 134) (j := 0) hX 0 rfl rfl dX6_draw_134 ?_
              refine V_iload_n (pc := 135) (j := 3) hX 3 rfl rfl dX6_draw_135 ?_
              refine cVIp1 (pc := 136) hX (c_X6_becomes (b := b) (T := drawC sd k) (by omega) hT) (by decide) st_X6_114 ix_20 rfl rfl rfl (Nat.le_of_ble_eq_true rfl) dX6_draw_136 (fun r136 D136 h136 => ?_)
              obtain ⟨v, rfl, hv, hP⟩ : ∃ v, r136 = oI v ∧ Rg v ∧ PubP D (drawO σ (sd : Int) (k : Int) (b : Int)) (oI v) (rU D136 22 (endS (D136.1 22) v)) := by
                rw [drawO, if_pos (by omega), Int.toNat_natCast, Int.toNat_natCast, Int.toNat_natCast]
                exact Pub_mk hM (by omega) (h136.from g2.1 g2.2.1)
              refine cVI1 (pc := 139) hX (c_X6_ends hv) (by decide) st_X6_136 ix_20 rfl rfl rfl (Nat.le_of_ble_eq_true rfl) dX6_draw_139 ?_
              refine V_iret (pc := 142) hX hR dX6_draw_142 ?_
              exact ⟨_, rfl, hP⟩
            · refine V_lload (pc := 53) hX rfl dX6_draw_53 ?_
              refine V_ldc2 (pc := 55) hX (1103515245) w_926 dX6_draw_55 ?_
              refine V_lmul (pc := 58) hX dX6_draw_58 ?_
              refine V_ldc2 (pc := 59) hX (12345) w_927 dX6_draw_59 ?_
              refine V_ladd (pc := 62) hX dX6_draw_62 ?_
              refine V_ldc2 (pc := 63) hX (2147483648) w_928 dX6_draw_63 ?_
              refine V_lrem (pc := 66) hX (by decide) dX6_draw_66 ?_
              refine V_topl (lN (lcN (lcR k sd))) (lc_step (rep_lt (by omega) k)) ?_
              have hr : lcR (k + 1) sd < 2147483648 := rep_lt (by omega) (k + 1)
              refine V_lstore (pc := 67) hX (by decide) rfl dX6_draw_67 ?_
              refine V_aload_n (pc := 69) (j := 0) hX 0 rfl rfl dX6_draw_69 ?_
              refine V_lload (pc := 70) hX rfl dX6_draw_70 ?_
              refine V_ldc2 (pc := 72) hX (65536) w_929 dX6_draw_72 ?_
              refine V_ldiv (pc := 75) hX (by decide) dX6_draw_75 ?_
              refine V_ldc2 (pc := 76) hX (40) w_930 dX6_draw_76 ?_
              refine V_lrem (pc := 79) hX (by decide) dX6_draw_79 ?_
              refine V_l2i (pc := 80) hX dX6_draw_80 ?_
              refine V_oI (((lcR (k + 1) sd / 65536 % 40 : Nat)) : Int) (lc_div hr (by decide) (by decide) (by decide) (by decide)) ?_
              refine V_bipush (pc := 81) (z := 25) hX (oI 25) (by decide) dX6_draw_81 ?_
              refine Z_isub (pc := 83) hX dX6_draw_83 ?_
              refine V_lload (pc := 84) hX rfl dX6_draw_84 ?_
              refine V_ldc2 (pc := 86) hX (4096) w_931 dX6_draw_86 ?_
              refine V_ldiv (pc := 89) hX (by decide) dX6_draw_89 ?_
              refine V_ldc2 (pc := 90) hX (40) w_930 dX6_draw_90 ?_
              refine V_lrem (pc := 93) hX (by decide) dX6_draw_93 ?_
              refine V_l2i (pc := 94) hX dX6_draw_94 ?_
              refine V_oI (((lcR (k + 1) sd / 4096 % 40 : Nat)) : Int) (lc_div hr (by decide) (by decide) (by decide) (by decide)) ?_
              refine V_bipush (pc := 95) (z := 25) hX (oI 25) (by decide) dX6_draw_95 ?_
              refine Z_isub (pc := 97) hX dX6_draw_97 ?_
              refine V_lload (pc := 98) hX rfl dX6_draw_98 ?_
              refine V_ldc2 (pc := 100) hX (1024) w_932 dX6_draw_100 ?_
              refine V_ldiv (pc := 103) hX (by decide) dX6_draw_103 ?_
              refine V_ldc2 (pc := 104) hX (12) w_933 dX6_draw_104 ?_
              refine V_lrem (pc := 107) hX (by decide) dX6_draw_107 ?_
              refine V_l2i (pc := 108) hX dX6_draw_108 ?_
              refine V_oI (((lcR (k + 1) sd / 1024 % 12 : Nat)) : Int) (lc_div hr (by decide) (by decide) (by decide) (by decide)) ?_
              refine V_iconst (pc := 109) (z := 1) hX (oI 1) rfl dX6_draw_109 ?_
              refine Z_iadd (pc := 110) hX dX6_draw_110 ?_
              refine V_lload (pc := 111) hX rfl dX6_draw_111 ?_
              refine V_ldc2 (pc := 113) hX (32) w_934 dX6_draw_113 ?_
              refine V_ldiv (pc := 116) hX (by decide) dX6_draw_116 ?_
              refine V_ldc2 (pc := 117) hX (12) w_933 dX6_draw_117 ?_
              refine V_lrem (pc := 120) hX (by decide) dX6_draw_120 ?_
              refine V_l2i (pc := 121) hX dX6_draw_121 ?_
              refine V_oI (((lcR (k + 1) sd / 32 % 12 : Nat)) : Int) (lc_div hr (by decide) (by decide) (by decide) (by decide)) ?_
              refine V_iconst (pc := 122) (z := 1) hX (oI 1) rfl dX6_draw_122 ?_
              refine Z_iadd (pc := 123) hX dX6_draw_123 ?_
              refine cVVp4 (pc := 124) hX (c_X6_fills (S := drS k sd (fun _ _ => false)) (by omega) (by omega) g2.2.2) (by decide) st_X6_111 ix_20 rfl rfl rfl (Nat.le_of_ble_eq_true rfl) dX6_draw_124 (fun D124 h124 => ?_)
              obtain ⟨t, rfl, hO, hT5⟩ := h124
              refine Z_iinc (pc := 127) hX 1 rfl rfl dX6_draw_127 ?_
              refine V_goto (pc := 130) (off := (-83)) (tgt := 47) hX (by decide) dX6_draw_130 ?_
              refine V_cut [(0, some (.ref (E.1 (20, 0)))), (1, some (.int (oI (sd : Int)))), (2, some (.int (oI (nn : Int)))), (3, some (.int (oI (b : Int)))), (4, some (.long (lN (lcR (k + 1) sd)))), (6, some (.int (oI ((k + 1 : Nat) : Int))))] ⟨rfl, rfl, rfl, rfl, rfl, rfl, trivial⟩ ?_
              exact ih (k + 1) _ (by omega) ⟨g2.1.tr (Fr_lU _ _), by rw [lU_get]; exact g2.2.1.tr hO.o8, by rw [lU_get]; exact hT5⟩ (by omega)
        refine V_aload_n (pc := 35) (j := 0) hX 0 rfl rfl dX6_draw_35 ?_
        refine V_iconst (pc := 36) (z := 5) hX (oI 5) rfl dX6_draw_36 ?_
        refine cVV1 (pc := 37) hX (c_X6_empties (a := 5) (by omega)) (by decide) st_X6_108 ix_20 rfl rfl rfl (Nat.le_of_ble_eq_true rfl) dX6_draw_37 ?_
        refine V_iload_n (pc := 40) (j := 1) hX 1 rfl rfl dX6_draw_40 ?_
        refine V_i2l (pc := 41) hX dX6_draw_41 ?_
        refine V_topl (lN sd) (by rw [oI_nat]; exact nI_l (by omega)) ?_
        refine V_lstore (pc := 42) hX (by decide) rfl dX6_draw_42 ?_
        refine V_iconst (pc := 44) (z := 0) hX (oI 0) rfl dX6_draw_44 ?_
        refine V_istore (pc := 45) hX (by decide) rfl dX6_draw_45 ?_
        refine V_cut [(0, some (.ref (E.1 (20, 0)))), (1, some (.int (oI (sd : Int)))), (2, some (.int (oI (nn : Int)))), (3, some (.int (oI (b : Int)))), (4, some (.long (lN (lcR 0 sd)))), (6, some (.int (oI ((0 : Nat) : Int))))] ⟨rfl, rfl, rfl, rfl, rfl, rfl, trivial⟩ ?_
        exact loop _ 0 _ (by omega) ⟨Fr_lU D _, by rw [lU_get]; exact Out5_blk.o8, by rw [lU_get]; exact AR_empty⟩ (Nat.lt_succ_self _)
      · have q24 := inB_f.mp h24
        refine V_aload_n (pc := 27) (j := 0) hX 0 rfl rfl dX6_draw_27 ?_
        refine V_sipush (pc := 28) (z := (-202)) hX (oI (-202)) (by decide) dX6_draw_28 ?_
        refine cVI1 (pc := 31) hX (c_X6_refuses (by omega)) (by decide) st_X6_105 ix_20 rfl rfl rfl (Nat.le_of_ble_eq_true rfl) dX6_draw_31 ?_
        refine V_iret (pc := 34) hX hR dX6_draw_34 ?_
        exact ⟨_, rfl, by rw [drawO, if_neg (by omega)]; exact Pub_bad hM⟩
theorem AR_common {s : Nat → Int64} {a b : Nat} {A B : Cl} (hA : AR s a A) (hB : AR s b B) : fb_sm (fun k => cnt (s (240 * a + k) &&& s (240 * b + k))) 240 = cntC (mixC 1 A B) := by
  have h : AR (fun k => s (240 * a + k) &&& s (240 * b + k)) 0 (mixC 1 A B) := AR_mix 1 hA hB (fun k hk => by rw [Nat.mul_zero, Nat.zero_add]; rfl)
  rw [← AR_cnt h, cntM]
  apply fb_sm_cong
  intro k hk
  rw [Nat.mul_zero, Nat.zero_add]
theorem c_X6_commonOf {E : Le} {l : Launch} {D : Dt} {A B : Cl} {a b : Nat} (ha : a < 13) (hb : b < 13) (hA : AR (D.2.1 21 0) a A) (hB : AR (D.2.1 21 0) b B) : ConI E l yX6_commonOf cX6_commonOf 5 (some .int) 2 [.ref (E.1 (20, 0)), .int (oI (a : Int)), .int (oI (b : Int))] D (oI ((cntC (mixC 1 A B) : Nat) : Int)) D := by
  refine Con_of (by decide) (Nat.le_of_ble_eq_true rfl) ?_
  intro X hX hR hl; subst hl
  have loop : ∀ (m : Nat) (k : Nat), k ≤ 240 → 240 - k < m → Vw E X 5 D 5 [(0, some (.ref (E.1 (20, 0)))), (1, some (.int (oI (a : Int)))), (2, some (.int (oI (b : Int)))), (3, some (.int (oI ((fb_sm (fun k => cnt (D.2.1 21 0 (240 * a + k) &&& D.2.1 21 0 (240 * b + k))) k : Nat) : Int)))), (4, some (.int (oI (k : Int))))] [] := by
    intro m
    induction m with
    | zero => intro k g1 g2; omega
    | succ m ih =>
      intro k g1 g2
      refine V_iload (pc := 5) hX rfl dX6_commonOf_5 ?_
      refine V_sipush (pc := 7) (z := 240) hX (oI 240) (by decide) dX6_commonOf_7 ?_
      refine Z_icmp_ge (pc := 10) (tgt := 52) hX (by omega) (by omega) dX6_commonOf_10 (by decide) (fun h10 => ?_) (fun h10 => ?_)
      · refine V_iload_n (pc := 52) (j := 3) hX 3 rfl rfl dX6_commonOf_52 ?_
        refine V_iret (pc := 53) hX hR dX6_commonOf_53 ?_
        have e : k = 240 := by omega
        subst e
        exact ⟨by rw [AR_common hA hB], rfl⟩
      · refine V_iload_n (pc := 13) (j := 3) hX 3 rfl rfl dX6_commonOf_13 ?_
        refine V_aload_n (pc := 14) (j := 0) hX 0 rfl rfl dX6_commonOf_14 ?_
        refine gf_X6_7 (pc := 15) hX dX6_commonOf_15 ?_
        refine V_sipush (pc := 18) (z := 240) hX (oI 240) (by decide) dX6_commonOf_18 ?_
        refine V_iload_n (pc := 21) (j := 1) hX 1 rfl rfl dX6_commonOf_21 ?_
        refine Z_imul (pc := 22) hX dX6_commonOf_22 ?_
        refine V_iload (pc := 23) hX rfl dX6_commonOf_23 ?_
        refine Z_iadd (pc := 25) hX dX6_commonOf_25 ?_
        refine zl_21 (pc := 26) hX (240 * a + k) (by omega) (by omega) dX6_commonOf_26 ?_
        refine V_aload_n (pc := 27) (j := 0) hX 0 rfl rfl dX6_commonOf_27 ?_
        refine gf_X6_7 (pc := 28) hX dX6_commonOf_28 ?_
        refine V_sipush (pc := 31) (z := 240) hX (oI 240) (by decide) dX6_commonOf_31 ?_
        refine V_iload_n (pc := 34) (j := 2) hX 2 rfl rfl dX6_commonOf_34 ?_
        refine Z_imul (pc := 35) hX dX6_commonOf_35 ?_
        refine V_iload (pc := 36) hX rfl dX6_commonOf_36 ?_
        refine Z_iadd (pc := 38) hX dX6_commonOf_38 ?_
        refine zl_21 (pc := 39) hX (240 * b + k) (by omega) (by omega) dX6_commonOf_39 ?_
        refine V_land (pc := 40) hX dX6_commonOf_40 ?_
        refine cSI1 (pc := 41) hX (c_X6_ones) (by decide) st_X6_41 (Nat.le_of_ble_eq_true rfl) dX6_commonOf_41 ?_
        refine Z_iadd (pc := 44) hX dX6_commonOf_44 ?_
        refine V_istore_n (pc := 45) (j := 3) hX 3 rfl (by decide) rfl dX6_commonOf_45 ?_
        refine Z_iinc (pc := 46) hX 1 rfl rfl dX6_commonOf_46 ?_
        refine V_goto (pc := 49) (off := (-44)) (tgt := 5) hX (by decide) dX6_commonOf_49 ?_
        refine V_cut [(0, some (.ref (E.1 (20, 0)))), (1, some (.int (oI (a : Int)))), (2, some (.int (oI (b : Int)))), (3, some (.int (oI ((fb_sm (fun k => cnt (D.2.1 21 0 (240 * a + k) &&& D.2.1 21 0 (240 * b + k))) (k + 1) : Nat) : Int)))), (4, some (.int (oI ((k + 1 : Nat) : Int))))] ⟨rfl, rfl, rfl, rfl, rfl, trivial⟩ ?_
        exact ih (k + 1) (by omega) (by omega)
  refine V_iconst (pc := 0) (z := 0) hX (oI 0) rfl dX6_commonOf_0 ?_
  refine V_istore_n (pc := 1) (j := 3) hX 3 rfl (by decide) rfl dX6_commonOf_1 ?_
  refine V_iconst (pc := 2) (z := 0) hX (oI 0) rfl dX6_commonOf_2 ?_
  refine V_istore (pc := 3) hX (by decide) rfl dX6_commonOf_3 ?_
  refine V_cut [(0, some (.ref (E.1 (20, 0)))), (1, some (.int (oI (a : Int)))), (2, some (.int (oI (b : Int)))), (3, some (.int (oI ((0 : Nat) : Int)))), (4, some (.int (oI ((0 : Nat) : Int))))] ⟨rfl, rfl, rfl, rfl, rfl, trivial⟩ ?_
  exact loop 241 0 (by omega) (by omega)
def commO (σ : AS) (a b : Int) : Int × AS := if (0 ≤ a ∧ a ≤ 4) ∧ 0 ≤ b ∧ b ≤ 4 then ((cntC (mixC 1 (σ.1 a.toNat) (σ.1 b.toNat)) : Int), σ) else badA σ
theorem c_X6_common {E : Le} {l : Launch} {D : Dt} {σ : AS} {a b : Int} (r_a : Rg a) (r_b : Rg b) (hM : Mst D σ) : ConIp E l yX6_common cX6_common 3 (some .int) 3 [.ref (E.1 (20, 0)), .int (oI a), .int (oI b)] D (PubP D (commO σ a b)) := by
  refine Con_of (by decide) (Nat.le_of_ble_eq_true rfl) ?_
  intro X hX hR hl; subst hl
  refine V_iload_n (pc := 0) (j := 1) hX 1 rfl rfl dX6_common_0 ?_
  refine cSI1 (pc := 1) hX (c_X6_isArea (by omega)) (by decide) st_X6_129 (Nat.le_of_ble_eq_true rfl) dX6_common_1 ?_
  refine B_if_eq (pc := 4) (tgt := 23) hX dX6_common_4 (by decide) (fun h4 => ?_) (fun h4 => ?_)
  · have q4 := inB_f.mp h4
    refine V_aload_n (pc := 23) (j := 0) hX 0 rfl rfl dX6_common_23 ?_
    refine V_sipush (pc := 24) (z := (-202)) hX (oI (-202)) (by decide) dX6_common_24 ?_
    refine cVI1 (pc := 27) hX (c_X6_refuses (by omega)) (by decide) st_X6_105 ix_20 rfl rfl rfl (Nat.le_of_ble_eq_true rfl) dX6_common_27 ?_
    refine V_iret (pc := 30) hX hR dX6_common_30 ?_
    exact ⟨_, rfl, by rw [commO, if_neg (by omega)]; exact Pub_bad hM⟩
  · have q4 := inB_t.mp h4
    refine V_iload_n (pc := 7) (j := 2) hX 2 rfl rfl dX6_common_7 ?_
    refine cSI1 (pc := 8) hX (c_X6_isArea (by omega)) (by decide) st_X6_129 (Nat.le_of_ble_eq_true rfl) dX6_common_8 ?_
    refine B_if_eq (pc := 11) (tgt := 23) hX dX6_common_11 (by decide) (fun h11 => ?_) (fun h11 => ?_)
    · have q11 := inB_f.mp h11
      refine V_aload_n (pc := 23) (j := 0) hX 0 rfl rfl dX6_common_23 ?_
      refine V_sipush (pc := 24) (z := (-202)) hX (oI (-202)) (by decide) dX6_common_24 ?_
      refine cVI1 (pc := 27) hX (c_X6_refuses (by omega)) (by decide) st_X6_105 ix_20 rfl rfl rfl (Nat.le_of_ble_eq_true rfl) dX6_common_27 ?_
      refine V_iret (pc := 30) hX hR dX6_common_30 ?_
      exact ⟨_, rfl, by rw [commO, if_neg (by omega)]; exact Pub_bad hM⟩
    · have q11 := inB_t.mp h11
      obtain ⟨a, rfl⟩ : ∃ N0 : Nat, a = (N0 : Int) := ⟨a.toNat, by omega⟩
      obtain ⟨b, rfl⟩ : ∃ N0 : Nat, b = (N0 : Int) := ⟨b.toNat, by omega⟩
      refine V_aload_n (pc := 14) (j := 0) hX 0 rfl rfl dX6_common_14 ?_
      refine V_iload_n (pc := 15) (j := 1) hX 1 rfl rfl dX6_common_15 ?_
      refine V_iload_n (pc := 16) (j := 2) hX 2 rfl rfl dX6_common_16 ?_
      refine cVI2 (pc := 17) hX (c_X6_commonOf (a := a) (b := b) (by omega) (by omega) (hM.1 a (by omega)).1 (hM.1 b (by omega)).1) (by decide) st_X6_191 ix_20 rfl rfl rfl (Nat.le_of_ble_eq_true rfl) dX6_common_17 ?_
      refine V_goto (pc := 20) (off := 10) (tgt := 30) hX (by decide) dX6_common_20 ?_
      refine V_iret (pc := 30) hX hR dX6_common_30 ?_
      exact ⟨_, rfl, by rw [commO, if_pos (by omega), Int.toNat_natCast, Int.toNat_natCast]; exact ⟨rfl, hM, CK.rf D⟩⟩
def acrC (S : Cl) (line : Int) (v : Nat) (k : Nat) : Bool := if line = 0 then S k v else S v k
def acrO (σ : AS) (a line v : Int) : Int × AS := if (0 ≤ a ∧ a ≤ 4) ∧ (0 ≤ line ∧ line ≤ 1) ∧ -60 ≤ v ∧ v ≤ 59 then (((fb_ct (acrC (σ.1 a.toNat) line (v + 60).toNat) 120 : Nat) : Int), σ) else badA σ
theorem rpC_in {S : Cl} {x y : Int} (hx : -60 ≤ x ∧ x ≤ 59) (hy : -60 ≤ y ∧ y ≤ 59) : rpC S y x = S (x + 60).toNat (y + 60).toNat := by
  rw [rpC, cellB_t.mpr ⟨hx, hy⟩, Bool.true_and]
theorem c_X6_across {E : Le} {l : Launch} {D : Dt} {σ : AS} {a line v : Int} (r_a : Rg a) (r_l : Rg line) (r_v : Rg v) (hM : Mst D σ) : ConIp E l yX6_across cX6_across 6 (some .int) 4 [.ref (E.1 (20, 0)), .int (oI a), .int (oI line), .int (oI v)] D (PubP D (acrO σ a line v)) := by
  refine Con_of (by decide) (Nat.le_of_ble_eq_true rfl) ?_
  intro X hX hR hl; subst hl
  refine V_iload_n (pc := 0) (j := 1) hX 1 rfl rfl dX6_across_0 ?_
  refine cSI1 (pc := 1) hX (c_X6_isArea (by omega)) (by decide) st_X6_129 (Nat.le_of_ble_eq_true rfl) dX6_across_1 ?_
  refine B_if_eq (pc := 4) (tgt := 27) hX dX6_across_4 (by decide) (fun h4 => ?_) (fun h4 => ?_)
  · have q4 := inB_f.mp h4
    refine V_aload_n (pc := 27) (j := 0) hX 0 rfl rfl dX6_across_27 ?_
    refine V_sipush (pc := 28) (z := (-202)) hX (oI (-202)) (by decide) dX6_across_28 ?_
    refine cVI1 (pc := 31) hX (c_X6_refuses (by omega)) (by decide) st_X6_105 ix_20 rfl rfl rfl (Nat.le_of_ble_eq_true rfl) dX6_across_31 ?_
    refine V_iret (pc := 34) hX hR dX6_across_34 ?_
    exact ⟨_, rfl, by rw [acrO, if_neg (by omega)]; exact Pub_bad hM⟩
  · have q4 := inB_t.mp h4
    refine V_iload_n (pc := 7) (j := 2) hX 2 rfl rfl dX6_across_7 ?_
    refine V_iconst (pc := 8) (z := 0) hX (oI 0) rfl dX6_across_8 ?_
    refine V_iconst (pc := 9) (z := 1) hX (oI 1) rfl dX6_across_9 ?_
    refine cSI3 (pc := 10) hX (c_X6_in (by omega) (by omega) (by omega)) (by decide) st_X6_33 (Nat.le_of_ble_eq_true rfl) dX6_across_10 ?_
    refine B_if_eq (pc := 13) (tgt := 27) hX dX6_across_13 (by decide) (fun h13 => ?_) (fun h13 => ?_)
    · have q13 := inB_f.mp h13
      refine V_aload_n (pc := 27) (j := 0) hX 0 rfl rfl dX6_across_27 ?_
      refine V_sipush (pc := 28) (z := (-202)) hX (oI (-202)) (by decide) dX6_across_28 ?_
      refine cVI1 (pc := 31) hX (c_X6_refuses (by omega)) (by decide) st_X6_105 ix_20 rfl rfl rfl (Nat.le_of_ble_eq_true rfl) dX6_across_31 ?_
      refine V_iret (pc := 34) hX hR dX6_across_34 ?_
      exact ⟨_, rfl, by rw [acrO, if_neg (by omega)]; exact Pub_bad hM⟩
    · have q13 := inB_t.mp h13
      refine V_iload_n (pc := 16) (j := 3) hX 3 rfl rfl dX6_across_16 ?_
      refine V_bipush (pc := 17) (z := (-60)) hX (oI (-60)) (by decide) dX6_across_17 ?_
      refine V_bipush (pc := 19) (z := 59) hX (oI 59) (by decide) dX6_across_19 ?_
      refine cSI3 (pc := 21) hX (c_X6_in (by omega) (by omega) (by omega)) (by decide) st_X6_33 (Nat.le_of_ble_eq_true rfl) dX6_across_21 ?_
      refine B_if_ne (pc := 24) (tgt := 35) hX dX6_across_24 (by decide) (fun h24 => ?_) (fun h24 => ?_)
      · have q24 := inB_t.mp h24
        obtain ⟨a, rfl⟩ : ∃ N0 : Nat, a = (N0 : Int) := ⟨a.toNat, by omega⟩
        have loop : ∀ (m : Nat) (k : Nat), k ≤ 120 → 120 - k < m → Vw E X 6 D 42 [(0, some (.ref (E.1 (20, 0)))), (1, some (.int (oI (a : Int)))), (2, some (.int (oI line))), (3, some (.int (oI v))), (4, some (.int (oI ((fb_ct (acrC (σ.1 a) line (v + 60).toNat) k : Nat) : Int)))), (5, some (.int (oI ((k : Int) - 60))))] [] := by
          intro m
          induction m with
          | zero => intro k g1 g2; omega
          | succ m ih =>
            intro k g1 g2
            refine V_iload (pc := 42) hX rfl dX6_across_42 ?_
            refine V_bipush (pc := 44) (z := 59) hX (oI 59) (by decide) dX6_across_44 ?_
            refine Z_icmp_gt (pc := 46) (tgt := 94) hX (by omega) (by omega) dX6_across_46 (by decide) (fun h46 => ?_) (fun h46 => ?_)
            · refine V_iload (pc := 94) hX rfl dX6_across_94 ?_
              refine V_iret (pc := 96) hX hR dX6_across_96 ?_
              have e : k = 120 := by omega
              subst e
              exact ⟨_, rfl, by rw [acrO, if_pos (by omega), Int.toNat_natCast]; exact ⟨rfl, hM, CK.rf D⟩⟩
            · refine V_iload (pc := 49) hX rfl dX6_across_49 ?_
              refine V_iload_n (pc := 51) (j := 2) hX 2 rfl rfl dX6_across_51 ?_
              refine Z_if_ne (pc := 52) (tgt := 69) hX (by omega) dX6_across_52 (by decide) (fun h52 => ?_) (fun h52 => ?_)
              · refine V_aload_n (pc := 69) (j := 0) hX 0 rfl rfl dX6_across_69 ?_
                refine V_iload_n (pc := 70) (j := 1) hX 1 rfl rfl dX6_across_70 ?_
                refine V_iload_n (pc := 71) (j := 3) hX 3 rfl rfl dX6_across_71 ?_
                refine V_iload (pc := 72) hX rfl dX6_across_72 ?_
                refine cVI3 (pc := 74) hX (c_X6_has (a := a) (by omega) (by omega) (by omega)) (by decide) st_X6_65 ix_20 rfl rfl rfl (Nat.le_of_ble_eq_true rfl) dX6_across_74 ?_
                refine B_if_eq (pc := 77) (tgt := 84) hX dX6_across_77 (by decide) (fun h77 => ?_) (fun h77 => ?_)
                · refine V_iconst (pc := 84) (z := 0) hX (oI 0) rfl dX6_across_84 ?_
                  refine Z_iadd (pc := 85) hX dX6_across_85 ?_
                  refine V_istore (pc := 86) hX (by decide) rfl dX6_across_86 ?_
                  refine Z_iinc (pc := 88) hX 1 rfl rfl dX6_across_88 ?_
                  refine V_goto (pc := 91) (off := (-49)) (tgt := 42) hX (by decide) dX6_across_91 ?_
                  rw [AR_has (hM.1 a (by omega)).1, rpC_in (x := v) (y := (k : Int) - 60) (by omega) (by omega)] at h77
                  have hc : acrC (σ.1 a) line (v + 60).toNat k = false := by
                    rw [acrC, if_neg (by omega)]
                    rw [show ((k : Int) - 60 + 60).toNat = k by omega] at h77
                    exact h77
                  refine V_cut [(0, some (.ref (E.1 (20, 0)))), (1, some (.int (oI (a : Int)))), (2, some (.int (oI line))), (3, some (.int (oI v))), (4, some (.int (oI ((fb_ct (acrC (σ.1 a) line (v + 60).toNat) (k + 1) : Nat) : Int)))), (5, some (.int (oI (((k + 1 : Nat) : Int) - 60))))] ⟨rfl, rfl, rfl, rfl, congrArg (fun q => some (Value.int (oI q))) (by rw [fb_ct_succ, hc]; simp), congrArg (fun q => some (Value.int (oI q))) (by omega), trivial⟩ ?_
                  exact ih (k + 1) (by omega) (by omega)
                · refine V_iconst (pc := 80) (z := 1) hX (oI 1) rfl dX6_across_80 ?_
                  refine V_goto (pc := 81) (off := 4) (tgt := 85) hX (by decide) dX6_across_81 ?_
                  refine Z_iadd (pc := 85) hX dX6_across_85 ?_
                  refine V_istore (pc := 86) hX (by decide) rfl dX6_across_86 ?_
                  refine Z_iinc (pc := 88) hX 1 rfl rfl dX6_across_88 ?_
                  refine V_goto (pc := 91) (off := (-49)) (tgt := 42) hX (by decide) dX6_across_91 ?_
                  rw [AR_has (hM.1 a (by omega)).1, rpC_in (x := v) (y := (k : Int) - 60) (by omega) (by omega)] at h77
                  have hc : acrC (σ.1 a) line (v + 60).toNat k = true := by
                    rw [acrC, if_neg (by omega)]
                    rw [show ((k : Int) - 60 + 60).toNat = k by omega] at h77
                    exact h77
                  refine V_cut [(0, some (.ref (E.1 (20, 0)))), (1, some (.int (oI (a : Int)))), (2, some (.int (oI line))), (3, some (.int (oI v))), (4, some (.int (oI ((fb_ct (acrC (σ.1 a) line (v + 60).toNat) (k + 1) : Nat) : Int)))), (5, some (.int (oI (((k + 1 : Nat) : Int) - 60))))] ⟨rfl, rfl, rfl, rfl, congrArg (fun q => some (Value.int (oI q))) (by rw [fb_ct_succ, hc]; simp), congrArg (fun q => some (Value.int (oI q))) (by omega), trivial⟩ ?_
                  exact ih (k + 1) (by omega) (by omega)
              · refine V_aload_n (pc := 55) (j := 0) hX 0 rfl rfl dX6_across_55 ?_
                refine V_iload_n (pc := 56) (j := 1) hX 1 rfl rfl dX6_across_56 ?_
                refine V_iload (pc := 57) hX rfl dX6_across_57 ?_
                refine V_iload_n (pc := 59) (j := 3) hX 3 rfl rfl dX6_across_59 ?_
                refine cVI3 (pc := 60) hX (c_X6_has (a := a) (by omega) (by omega) (by omega)) (by decide) st_X6_65 ix_20 rfl rfl rfl (Nat.le_of_ble_eq_true rfl) dX6_across_60 ?_
                refine B_if_eq (pc := 63) (tgt := 84) hX dX6_across_63 (by decide) (fun h63 => ?_) (fun h63 => ?_)
                · refine V_iconst (pc := 84) (z := 0) hX (oI 0) rfl dX6_across_84 ?_
                  refine Z_iadd (pc := 85) hX dX6_across_85 ?_
                  refine V_istore (pc := 86) hX (by decide) rfl dX6_across_86 ?_
                  refine Z_iinc (pc := 88) hX 1 rfl rfl dX6_across_88 ?_
                  refine V_goto (pc := 91) (off := (-49)) (tgt := 42) hX (by decide) dX6_across_91 ?_
                  rw [AR_has (hM.1 a (by omega)).1, rpC_in (x := (k : Int) - 60) (y := v) (by omega) (by omega)] at h63
                  have hc : acrC (σ.1 a) line (v + 60).toNat k = false := by
                    rw [acrC, if_pos (by omega)]
                    rw [show ((k : Int) - 60 + 60).toNat = k by omega] at h63
                    exact h63
                  refine V_cut [(0, some (.ref (E.1 (20, 0)))), (1, some (.int (oI (a : Int)))), (2, some (.int (oI line))), (3, some (.int (oI v))), (4, some (.int (oI ((fb_ct (acrC (σ.1 a) line (v + 60).toNat) (k + 1) : Nat) : Int)))), (5, some (.int (oI (((k + 1 : Nat) : Int) - 60))))] ⟨rfl, rfl, rfl, rfl, congrArg (fun q => some (Value.int (oI q))) (by rw [fb_ct_succ, hc]; simp), congrArg (fun q => some (Value.int (oI q))) (by omega), trivial⟩ ?_
                  exact ih (k + 1) (by omega) (by omega)
                · refine V_goto (pc := 66) (off := 14) (tgt := 80) hX (by decide) dX6_across_66 ?_
                  refine V_iconst (pc := 80) (z := 1) hX (oI 1) rfl dX6_across_80 ?_
                  refine V_goto (pc := 81) (off := 4) (tgt := 85) hX (by decide) dX6_across_81 ?_
                  refine Z_iadd (pc := 85) hX dX6_across_85 ?_
                  refine V_istore (pc := 86) hX (by decide) rfl dX6_across_86 ?_
                  refine Z_iinc (pc := 88) hX 1 rfl rfl dX6_across_88 ?_
                  refine V_goto (pc := 91) (off := (-49)) (tgt := 42) hX (by decide) dX6_across_91 ?_
                  rw [AR_has (hM.1 a (by omega)).1, rpC_in (x := (k : Int) - 60) (y := v) (by omega) (by omega)] at h63
                  have hc : acrC (σ.1 a) line (v + 60).toNat k = true := by
                    rw [acrC, if_pos (by omega)]
                    rw [show ((k : Int) - 60 + 60).toNat = k by omega] at h63
                    exact h63
                  refine V_cut [(0, some (.ref (E.1 (20, 0)))), (1, some (.int (oI (a : Int)))), (2, some (.int (oI line))), (3, some (.int (oI v))), (4, some (.int (oI ((fb_ct (acrC (σ.1 a) line (v + 60).toNat) (k + 1) : Nat) : Int)))), (5, some (.int (oI (((k + 1 : Nat) : Int) - 60))))] ⟨rfl, rfl, rfl, rfl, congrArg (fun q => some (Value.int (oI q))) (by rw [fb_ct_succ, hc]; simp), congrArg (fun q => some (Value.int (oI q))) (by omega), trivial⟩ ?_
                  exact ih (k + 1) (by omega) (by omega)
        refine V_iconst (pc := 35) (z := 0) hX (oI 0) rfl dX6_across_35 ?_
        refine V_istore (pc := 36) hX (by decide) rfl dX6_across_36 ?_
        refine V_bipush (pc := 38) (z := (-60)) hX (oI (-60)) (by decide) dX6_across_38 ?_
        refine V_istore (pc := 40) hX (by decide) rfl dX6_across_40 ?_
        refine V_cut [(0, some (.ref (E.1 (20, 0)))), (1, some (.int (oI (a : Int)))), (2, some (.int (oI line))), (3, some (.int (oI v))), (4, some (.int (oI ((0 : Nat) : Int)))), (5, some (.int (oI (((0 : Nat) : Int) - 60))))] ⟨rfl, rfl, rfl, rfl, rfl, rfl, trivial⟩ ?_
        exact loop 121 0 (by omega) (by omega)
      · have q24 := inB_f.mp h24
        refine V_aload_n (pc := 27) (j := 0) hX 0 rfl rfl dX6_across_27 ?_
        refine V_sipush (pc := 28) (z := (-202)) hX (oI (-202)) (by decide) dX6_across_28 ?_
        refine cVI1 (pc := 31) hX (c_X6_refuses (by omega)) (by decide) st_X6_105 ix_20 rfl rfl rfl (Nat.le_of_ble_eq_true rfl) dX6_across_31 ?_
        refine V_iret (pc := 34) hX hR dX6_across_34 ?_
        exact ⟨_, rfl, by rw [acrO, if_neg (by omega)]; exact Pub_bad hM⟩
def apV (A B : Cl) : Nat → Nat → Int
  | 0, _ => -201
  | m + 1, n => if 0 < cntC (mixC 1 (itS true n A) B) then (n : Int) else apV A B m (n + 1)
def apO (σ : AS) (a b : Int) : Int × AS := if (0 ≤ a ∧ a ≤ 4) ∧ 0 ≤ b ∧ b ≤ 4 then (apV (σ.1 a.toNat) (σ.1 b.toNat) 10 0, σ) else badA σ
theorem c_X6_apart {E : Le} {l : Launch} {D : Dt} {σ : AS} {a b : Int} (r_a : Rg a) (r_b : Rg b) (hM : Mst D σ) : ConIp E l yX6_apart cX6_apart 4 (some .int) 3 [.ref (E.1 (20, 0)), .int (oI a), .int (oI b)] D (PubP D (apO σ a b)) := by
  refine Con_of (by decide) (Nat.le_of_ble_eq_true rfl) ?_
  intro X hX hR hl; subst hl
  refine V_iload_n (pc := 0) (j := 1) hX 1 rfl rfl dX6_apart_0 ?_
  refine cSI1 (pc := 1) hX (c_X6_isArea (by omega)) (by decide) st_X6_129 (Nat.le_of_ble_eq_true rfl) dX6_apart_1 ?_
  refine B_if_eq (pc := 4) (tgt := 14) hX dX6_apart_4 (by decide) (fun h4 => ?_) (fun h4 => ?_)
  · have q4 := inB_f.mp h4
    refine V_aload_n (pc := 14) (j := 0) hX 0 rfl rfl dX6_apart_14 ?_
    refine V_sipush (pc := 15) (z := (-202)) hX (oI (-202)) (by decide) dX6_apart_15 ?_
    refine cVI1 (pc := 18) hX (c_X6_refuses (by omega)) (by decide) st_X6_105 ix_20 rfl rfl rfl (Nat.le_of_ble_eq_true rfl) dX6_apart_18 ?_
    refine V_iret (pc := 21) hX hR dX6_apart_21 ?_
    exact ⟨_, rfl, by rw [apO, if_neg (by omega)]; exact Pub_bad hM⟩
  · have q4 := inB_t.mp h4
    refine V_iload_n (pc := 7) (j := 2) hX 2 rfl rfl dX6_apart_7 ?_
    refine cSI1 (pc := 8) hX (c_X6_isArea (by omega)) (by decide) st_X6_129 (Nat.le_of_ble_eq_true rfl) dX6_apart_8 ?_
    refine B_if_ne (pc := 11) (tgt := 22) hX dX6_apart_11 (by decide) (fun h11 => ?_) (fun h11 => ?_)
    · have q11 := inB_t.mp h11
      obtain ⟨a, rfl⟩ : ∃ N0 : Nat, a = (N0 : Int) := ⟨a.toNat, by omega⟩
      obtain ⟨b, rfl⟩ : ∃ N0 : Nat, b = (N0 : Int) := ⟨b.toNat, by omega⟩
      have loop : ∀ (m : Nat) (k : Nat) (D1 : Dt), k ≤ 10 → (Fr D D1 ∧ Out8 (D.2.1 21 0) (D1.2.1 21 0) ∧ AR (D1.2.1 21 0) 5 (itS true k (σ.1 a)) ∧ apV (σ.1 a) (σ.1 b) (10 - k) k = apV (σ.1 a) (σ.1 b) 10 0) → 10 - k < m → Vw E X 4 D1 30 [(0, some (.ref (E.1 (20, 0)))), (1, some (.int (oI (a : Int)))), (2, some (.int (oI (b : Int)))), (3, some (.int (oI (k : Int))))] [] := by
        intro m
        induction m with
        | zero => intro k D1 g1 g2 g3; omega
        | succ m ih =>
          intro k D1 g1 g2 g3
          refine V_iload_n (pc := 30) (j := 3) hX 3 rfl rfl dX6_apart_30 ?_
          refine V_bipush (pc := 31) (z := 10) hX (oI 10) (by decide) dX6_apart_31 ?_
          refine Z_icmp_ge (pc := 33) (tgt := 58) hX (by omega) (by omega) dX6_apart_33 (by decide) (fun h33 => ?_) (fun h33 => ?_)
          · refine V_sipush (pc := 58) (z := (-201)) hX (oI (-201)) (by decide) dX6_apart_58 ?_
            refine V_iret (pc := 61) hX hR dX6_apart_61 ?_
            rw [show 10 - k = 0 by omega, apV] at g2
            exact ⟨_, rfl, by rw [apO, if_pos (by omega), Int.toNat_natCast, Int.toNat_natCast]; exact ⟨by rw [← g2.2.2.2], hM.fr g2.1 g2.2.1, g2.1.ck⟩⟩
          · refine V_aload_n (pc := 36) (j := 0) hX 0 rfl rfl dX6_apart_36 ?_
            refine V_iconst (pc := 37) (z := 5) hX (oI 5) rfl dX6_apart_37 ?_
            refine V_iload_n (pc := 38) (j := 2) hX 2 rfl rfl dX6_apart_38 ?_
            refine cVI2 (pc := 39) hX (c_X6_commonOf (a := 5) (b := b) (by omega) (by omega) g2.2.2.1 ((hM.1 b (by omega)).1.same (fun k hk => g2.2.1 _ (by omega)))) (by decide) st_X6_191 ix_20 rfl rfl rfl (Nat.le_of_ble_eq_true rfl) dX6_apart_39 ?_
            have hcx := cntC_max (mixC 1 (itS true k (σ.1 a)) (σ.1 b))
            refine Z_if_le (pc := 42) (tgt := 47) hX (by omega) dX6_apart_42 (by decide) (fun h42 => ?_) (fun h42 => ?_)
            · rw [show 10 - k = (9 - k) + 1 by omega, apV, if_neg (by omega)] at g2
              refine V_aload_n (pc := 47) (j := 0) hX 0 rfl rfl dX6_apart_47 ?_
              refine V_iconst (pc := 48) (z := 1) hX (oI 1) rfl dX6_apart_48 ?_
              refine V_bI true (by decide) ?_
              refine cVV1 (pc := 49) hX (c_X6_step) (by decide) st_X6_125 ix_20 rfl rfl rfl (Nat.le_of_ble_eq_true rfl) dX6_apart_49 ?_
              refine Z_iinc (pc := 52) hX 1 rfl rfl dX6_apart_52 ?_
              refine V_goto (pc := 55) (off := (-25)) (tgt := 30) hX (by decide) dX6_apart_55 ?_
              refine V_cut [(0, some (.ref (E.1 (20, 0)))), (1, some (.int (oI (a : Int)))), (2, some (.int (oI (b : Int)))), (3, some (.int (oI ((k + 1 : Nat) : Int))))] ⟨rfl, rfl, rfl, rfl, trivial⟩ ?_
              have q := step_AR (m := true) g2.2.2.1 rfl
              exact ih (k + 1) _ (by omega) ⟨g2.1.tr (Fr_lU _ _), by rw [lU_get]; exact g2.2.1.tr q.2, by rw [lU_get]; exact q.1, by rw [show 10 - (k + 1) = 9 - k by omega]; exact g2.2.2.2⟩ (by omega)
            · rw [show 10 - k = (9 - k) + 1 by omega, apV, if_pos (by omega)] at g2
              refine V_iload_n (pc := 45) (j := 3) hX 3 rfl rfl dX6_apart_45 ?_
              refine V_iret (pc := 46) hX hR dX6_apart_46 ?_
              exact ⟨_, rfl, by rw [apO, if_pos (by omega), Int.toNat_natCast, Int.toNat_natCast]; exact ⟨by rw [← g2.2.2.2], hM.fr g2.1 g2.2.1, g2.1.ck⟩⟩
      refine V_aload_n (pc := 22) (j := 0) hX 0 rfl rfl dX6_apart_22 ?_
      refine V_iload_n (pc := 23) (j := 1) hX 1 rfl rfl dX6_apart_23 ?_
      refine V_iconst (pc := 24) (z := 5) hX (oI 5) rfl dX6_apart_24 ?_
      refine cVV2 (pc := 25) hX (c_X6_copies (a := a) (b := 5) (by omega) (by omega)) (by decide) st_X6_97 ix_20 rfl rfl rfl (Nat.le_of_ble_eq_true rfl) dX6_apart_25 ?_
      refine V_iconst (pc := 28) (z := 0) hX (oI 0) rfl dX6_apart_28 ?_
      refine V_istore_n (pc := 29) (j := 3) hX 3 rfl (by decide) rfl dX6_apart_29 ?_
      refine V_cut [(0, some (.ref (E.1 (20, 0)))), (1, some (.int (oI (a : Int)))), (2, some (.int (oI (b : Int)))), (3, some (.int (oI ((0 : Nat) : Int))))] ⟨rfl, rfl, rfl, rfl, trivial⟩ ?_
      exact loop 11 0 _ (by omega) ⟨Fr_lU D _, by rw [lU_get]; exact Out5_blk.o8, by rw [lU_get]; exact (hM.1 a (by omega)).1.same (fun k hk => blk_in hk), rfl⟩ (by omega)
    · have q11 := inB_f.mp h11
      refine V_aload_n (pc := 14) (j := 0) hX 0 rfl rfl dX6_apart_14 ?_
      refine V_sipush (pc := 15) (z := (-202)) hX (oI (-202)) (by decide) dX6_apart_15 ?_
      refine cVI1 (pc := 18) hX (c_X6_refuses (by omega)) (by decide) st_X6_105 ix_20 rfl rfl rfl (Nat.le_of_ble_eq_true rfl) dX6_apart_18 ?_
      refine V_iret (pc := 21) hX hR dX6_apart_21 ?_
      exact ⟨_, rfl, by rw [apO, if_neg (by omega)]; exact Pub_bad hM⟩
