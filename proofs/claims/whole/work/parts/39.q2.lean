/-! Long.bitCount: bytes of a long -/
def mkN (c : Nat) : Nat → Nat
  | 0 => 0
  | k + 1 => c + 256 * mkN c k
theorem andS {b m c M : Nat} (hb : b < 256) (hc : c < 256) : (b + 256 * m) &&& (c + 256 * M) = (b &&& c) + 256 * (m &&& M) := by
  have hd : b &&& c < 2 ^ 8 := Nat.and_lt_two_pow b hc
  apply Nat.eq_of_testBit_eq
  intro i
  rw [Nat.testBit_and, Nat.add_comm b, Nat.add_comm c, Nat.add_comm (b &&& c), show 256 = 2 ^ 8 from rfl, Nat.testBit_two_pow_mul_add m hb, Nat.testBit_two_pow_mul_add M hc, Nat.testBit_two_pow_mul_add _ hd]
  by_cases h : i < 8
  · rw [if_pos h, if_pos h, if_pos h, Nat.testBit_and]
  · rw [if_neg h, if_neg h, if_neg h, Nat.testBit_and]
def p1N (k n : Nat) : Nat := n - (n / 2 &&& mkN 85 k)
def p2N (k n : Nat) : Nat := (n &&& mkN 51 k) + (n / 4 &&& mkN 51 k)
def p3N (k n : Nat) : Nat := (n + n / 16) &&& mkN 15 k
def g1N (b : Nat) : Nat := b - (b / 2 &&& 85)
def g2N (b : Nat) : Nat := (b &&& 51) + (b / 4 &&& 51)
def g3N (b : Nat) : Nat := (b + b / 16) &&& 15
theorem p1S {k b m : Nat} (hb : b < 256) : p1N (k + 1) (b + 256 * m) = g1N b + 256 * p1N k m := by
  have e : (b + 256 * m) / 2 = (b / 2 + 128 * (m % 2)) + 256 * (m / 2) := by omega
  have t : ∀ b, b < 256 → ∀ u, u < 2 → (b / 2 + 128 * u) &&& 85 = b / 2 &&& 85 := by decide +kernel
  have l1 : b / 2 &&& 85 ≤ b / 2 := Nat.and_le_left
  have l2 : m / 2 &&& mkN 85 k ≤ m / 2 := Nat.and_le_left
  rw [p1N, p1N, g1N, e, mkN, andS (by omega) (by omega), t b hb (m % 2) (by omega)]
  omega
theorem p2S {k b m : Nat} (hb : b < 256) : p2N (k + 1) (b + 256 * m) = g2N b + 256 * p2N k m := by
  have e : (b + 256 * m) / 4 = (b / 4 + 64 * (m % 4)) + 256 * (m / 4) := by omega
  have t : ∀ b, b < 256 → ∀ u, u < 4 → (b / 4 + 64 * u) &&& 51 = b / 4 &&& 51 := by decide +kernel
  rw [p2N, p2N, g2N, e, mkN, andS (by omega) (by omega), andS (by omega) (by omega), t b hb (m % 4) (by omega)]
  omega
theorem p3S {k b m : Nat} (hb : b ≤ 68) (hm : m % 16 ≤ 4) : p3N (k + 1) (b + 256 * m) = g3N b + 256 * p3N k m := by
  have e : (b + 256 * m) + (b + 256 * m) / 16 = (b + b / 16 + 16 * (m % 16)) + 256 * (m + m / 16) := by omega
  have t : ∀ b, b ≤ 68 → ∀ u, u ≤ 4 → (b + b / 16 + 16 * u) &&& 15 = (b + b / 16) &&& 15 := by decide +kernel
  rw [p3N, p3N, g3N, e, mkN, andS (by omega) (by omega), t b hb (m % 16) hm]
theorem g_fin : ∀ b, b < 256 → g1N b < 256 ∧ g2N (g1N b) ≤ 68 ∧ g2N (g1N b) % 16 ≤ 4 ∧ g3N (g2N (g1N b)) = fb_ct (fun i => b.testBit i) 8 := by decide +kernel
def byN (b : Nat) : Nat := fb_ct (fun i => b.testBit i) 8
def vB : Nat → Nat → Nat
  | 0, _ => 0
  | k + 1, n => byN (n % 256) + 256 * vB k (n / 256)
def sB : Nat → Nat → Nat
  | 0, _ => 0
  | k + 1, n => byN (n % 256) + sB k (n / 256)
theorem pq_16 : ∀ k n, n < 256 ^ k → p2N k (p1N k n) % 16 ≤ 4
  | 0, n, h => by
    have : n = 0 := by simpa using h
    subst this; decide
  | k + 1, n, h => by
    have hg := g_fin (n % 256) (by omega)
    rw [show n = n % 256 + 256 * (n / 256) by omega, p1S (by omega), p2S hg.1]
    omega
theorem pq_v : ∀ k n, n < 256 ^ k → p3N k (p2N k (p1N k n)) = vB k n
  | 0, n, h => by
    have : n = 0 := by simpa using h
    subst this; decide
  | k + 1, n, h => by
    have hg := g_fin (n % 256) (by omega)
    have hd : n / 256 < 256 ^ k := by rw [Nat.pow_succ] at h; omega
    have hs : p3N (k + 1) (p2N (k + 1) (p1N (k + 1) (n % 256 + 256 * (n / 256)))) = g3N (g2N (g1N (n % 256))) + 256 * p3N k (p2N k (p1N k (n / 256))) := by
      rw [p1S (by omega), p2S hg.1, p3S hg.2.1 (pq_16 k _ hd)]
    rw [show n % 256 + 256 * (n / 256) = n by omega] at hs
    rw [hs, pq_v k _ hd, vB, byN, hg.2.2.2]
theorem sB_ct : ∀ k n, fb_ct (fun i => n.testBit i) (8 * k) = sB k n
  | 0, n => rfl
  | k + 1, n => by
    rw [show 8 * (k + 1) = 8 + 8 * k by omega, fb_ct_split, sB, ← sB_ct k (n / 256), byN]
    congr 1
    · apply fb_ct_cong
      intro i hi
      rw [show 256 = 2 ^ 8 from rfl, Nat.testBit_mod_two_pow, decide_eq_true hi, Bool.true_and]
    · apply fb_ct_cong
      intro i hi
      rw [show 256 = 2 ^ 8 from rfl, Nat.testBit_div_two_pow, Nat.add_comm]
theorem byN_le (b : Nat) : byN b ≤ 8 := fb_ct_le _ 8
theorem vB_aux {x c0 c1 c2 c3 c4 c5 c6 c7 : Nat} (hx : x = c0 + 256 * (c1 + 256 * (c2 + 256 * (c3 + 256 * (c4 + 256 * (c5 + 256 * (c6 + 256 * (c7 + 256 * 0)))))))) (h0 : c0 ≤ 8) (h1 : c1 ≤ 8) (h2 : c2 ≤ 8) (h3 : c3 ≤ 8) (h4 : c4 ≤ 8) (h5 : c5 ≤ 8) (h6 : c6 ≤ 8) (h7 : c7 ≤ 8) : x < 1152921504606846976 ∧ ((x + x / 256 + (x + x / 256) / 65536) + (x + x / 256 + (x + x / 256) / 65536) / 4294967296) % 128 = c0 + (c1 + (c2 + (c3 + (c4 + (c5 + (c6 + (c7 + 0))))))) := by
  have e1 : x / 256 = c1 + 256 * (c2 + 256 * (c3 + 256 * (c4 + 256 * (c5 + 256 * (c6 + 256 * c7))))) := by omega
  obtain ⟨y, hy⟩ : ∃ y, y = x + x / 256 := ⟨_, rfl⟩
  rw [← hy]
  rw [e1] at hy
  have e2 : y / 65536 = c2 + c3 + 256 * (c3 + c4 + 256 * (c4 + c5 + 256 * (c5 + c6 + 256 * (c6 + c7 + 256 * c7)))) := by omega
  obtain ⟨w, hw⟩ : ∃ w, w = y + y / 65536 := ⟨_, rfl⟩
  rw [← hw]
  rw [e2] at hw
  have e3 : w / 4294967296 = c4 + c5 + (c6 + c7) + 256 * (c5 + c6 + c7 + 256 * (c6 + c7 + 256 * c7)) := by omega
  rw [e3]
  refine ⟨by omega, ?_⟩
  clear e1 e2 e3
  omega
theorem vB_sum (n : Nat) : vB 8 n < 1152921504606846976 ∧ ((vB 8 n + vB 8 n / 256 + (vB 8 n + vB 8 n / 256) / 65536) + (vB 8 n + vB 8 n / 256 + (vB 8 n + vB 8 n / 256) / 65536) / 4294967296) % 128 = sB 8 n :=
  vB_aux (x := vB 8 n) rfl (byN_le _) (byN_le _) (byN_le _) (byN_le _) (byN_le _) (byN_le _) (byN_le _) (byN_le _)
/-! the same in longs -/
def tn (v : Int64) : Nat := v.toBitVec.toNat
abbrev us (v : Int64) (k : Nat) : Int64 := (v.toUInt64 >>> ((oI (k : Int)).toInt64.toUInt64 &&& Int64.toUInt64 63)).toInt64
theorem tn_us (v : Int64) {k : Nat} (h : k < 64) : tn (us v k) = tn v / 2 ^ k := by
  rw [tn, us, ushr_bv v h, BitVec.toNat_ushiftRight, Nat.shiftRight_eq_div_pow, tn]
theorem tn_and (u v : Int64) : tn (u &&& v) = tn u &&& tn v := by
  rw [tn, Int64.toBitVec_and, BitVec.toNat_and, tn, tn]
theorem tn_add {u v : Int64} (h : tn u + tn v < 2 ^ 64) : tn (u + v) = tn u + tn v := by
  rw [tn, Int64.toBitVec_add, BitVec.toNat_add_of_lt h, tn, tn]
theorem tn_sub {u v : Int64} (h : tn v ≤ tn u) : tn (u - v) = tn u - tn v := by
  rw [tn, Int64.toBitVec_sub, BitVec.toNat_sub_of_le (BitVec.le_def.mpr h), tn, tn]
theorem tn_lt (v : Int64) : tn v < 2 ^ 64 := v.toBitVec.isLt
def b1L (v : Int64) : Int64 := v - (us v 1 &&& 6148914691236517205)
def b2L (v : Int64) : Int64 := (v &&& 3689348814741910323) + (us v 2 &&& 3689348814741910323)
def b3L (v : Int64) : Int64 := (v + us v 4) &&& 1085102592571150095
theorem b1_tn (v : Int64) : tn (b1L v) = p1N 8 (tn v) := by
  have m1 : tn 6148914691236517205 = mkN 85 8 := by decide +kernel
  have q : tn (us v 1 &&& 6148914691236517205) = tn v / 2 &&& mkN 85 8 := by rw [tn_and, tn_us v (by decide), m1]
  have l : tn v / 2 &&& mkN 85 8 ≤ tn v / 2 := Nat.and_le_left
  rw [b1L, tn_sub (by rw [q]; omega), q, p1N]
theorem b2_tn (v : Int64) : tn (b2L v) = p2N 8 (tn v) ∧ p2N 8 (tn v) ≤ 7378697629483820646 := by
  have m2 : tn 3689348814741910323 = mkN 51 8 := by decide +kernel
  have q1 : tn (v &&& 3689348814741910323) = tn v &&& mkN 51 8 := by rw [tn_and, m2]
  have q2 : tn (us v 2 &&& 3689348814741910323) = tn v / 4 &&& mkN 51 8 := by rw [tn_and, tn_us v (by decide), m2]
  have l1 : tn v &&& mkN 51 8 ≤ mkN 51 8 := Nat.and_le_right
  have l2 : tn v / 4 &&& mkN 51 8 ≤ mkN 51 8 := Nat.and_le_right
  have l3 : mkN 51 8 = 3689348814741910323 := by decide +kernel
  exact ⟨by rw [b2L, tn_add (by rw [q1, q2]; omega), q1, q2, p2N], by rw [p2N]; omega⟩
theorem b3_tn (v : Int64) (h : tn v ≤ 7378697629483820646) : tn (b3L v) = p3N 8 (tn v) := by
  have m3 : tn 1085102592571150095 = mkN 15 8 := by decide +kernel
  rw [b3L, tn_and, m3, tn_add (by rw [tn_us v (by decide)]; omega), tn_us v (by decide), p3N]
def b6L (v : Int64) : Int64 := (v + us v 8 + us (v + us v 8) 16) + us (v + us v 8 + us (v + us v 8) 16) 32
theorem b6_tn (v : Int64) (h : tn v < 1152921504606846976) : tn (b6L v) = (tn v + tn v / 256 + (tn v + tn v / 256) / 65536) + (tn v + tn v / 256 + (tn v + tn v / 256) / 65536) / 4294967296 := by
  have e1 : tn (v + us v 8) = tn v + tn v / 256 := by
    rw [tn_add (by rw [tn_us v (by decide)]; omega), tn_us v (by decide)]
  have e2 : tn (v + us v 8 + us (v + us v 8) 16) = tn v + tn v / 256 + (tn v + tn v / 256) / 65536 := by
    rw [tn_add (by rw [tn_us _ (by decide), e1]; omega), tn_us _ (by decide), e1]
  rw [b6L, tn_add (by rw [tn_us _ (by decide), e2]; omega), tn_us _ (by decide), e2]
theorem l2i_127 (x : Int64) : x.toInt32 &&& oI 127 = oI ((tn x % 128 : Nat) : Int) := by
  apply Int32.toBitVec_inj.mp
  apply BitVec.eq_of_toNat_eq
  have e1 : (x.toInt32 &&& oI 127).toBitVec.toNat = x.toInt32.toBitVec.toNat &&& 127 := by
    rw [Int32.toBitVec_and, BitVec.toNat_and]; rfl
  have e2 : x.toInt32.toBitVec.toNat = tn x % 2 ^ 32 := by
    have : x.toInt32.toBitVec = x.toBitVec.signExtend 32 := rfl
    rw [this, BitVec.signExtend_eq_setWidth_of_le _ (by decide), BitVec.toNat_setWidth]; rfl
  have e3 : (oI ((tn x % 128 : Nat) : Int)).toBitVec.toNat = tn x % 128 := by
    have : (oI ((tn x % 128 : Nat) : Int)).toBitVec = BitVec.ofInt 32 ((tn x % 128 : Nat) : Int) := rfl
    rw [this, BitVec.toNat_ofInt]; omega
  rw [e1, e2, e3, show (127 : Nat) = 2 ^ 7 - 1 from rfl, Nat.and_two_pow_sub_one_eq_mod]
  omega
def bct (v : Int64) : Nat := fb_ct (tb v) 64
theorem bit_fin (v : Int64) : (b6L (b3L (b2L (b1L v)))).toInt32 &&& oI 127 = oI ((bct v : Nat) : Int) := by
  have h1 := b1_tn v
  have h2 := b2_tn (b1L v)
  rw [h1] at h2
  have h3 := b3_tn (b2L (b1L v)) (by rw [h2.1]; exact h2.2)
  rw [h2.1, pq_v 8 _ (tn_lt v)] at h3
  have hs := vB_sum (tn v)
  have h6 := b6_tn (b3L (b2L (b1L v))) (by rw [h3]; exact hs.1)
  rw [h3] at h6
  rw [l2i_127, h6, hs.2, ← sB_ct]
  rfl
theorem bct_le (v : Int64) : bct v ≤ 64 := fb_ct_le _ 64
theorem bct_60 {v : Int64} (h : b60 v) : bct v = cnt v := by
  have e : fb_ct (fun k => tb v (60 + k)) 4 = 0 := fb_ct_zero.mpr (fun k hk => h _ (by omega))
  rw [bct, cnt, show 64 = 60 + 4 from rfl, fb_ct_split, e, Nat.add_zero]
theorem c_J13_bitCount_95d88 {E : Le} {l : Launch} {D : Dt} {v : Int64} : ConI E l yJ13_bitCount_95d88 cJ13_bitCount_95d88 2 (some .int) 1 [.long v] D (oI ((bct v : Nat) : Int)) D := by
  refine Con_of (by decide) (Nat.le_of_ble_eq_true rfl) ?_
  intro X hX hR hl; subst hl
  refine V_lload_n (pc := 0) (j := 0) hX 0 rfl rfl dJ13_bitCount_95d88_0 ?_
  refine V_lload_n (pc := 1) (j := 0) hX 0 rfl rfl dJ13_bitCount_95d88_1 ?_
  refine V_iconst (pc := 2) (z := 1) hX (oI 1) rfl dJ13_bitCount_95d88_2 ?_
  refine V_lushr (pc := 3) hX dJ13_bitCount_95d88_3 ?_
  refine V_ldc2 (pc := 4) hX (6148914691236517205) w_301 dJ13_bitCount_95d88_4 ?_
  refine V_land (pc := 7) hX dJ13_bitCount_95d88_7 ?_
  refine V_lsub (pc := 8) hX dJ13_bitCount_95d88_8 ?_
  refine V_lstore_n (pc := 9) (j := 0) hX 0 rfl (by decide) rfl dJ13_bitCount_95d88_9 ?_
  refine V_lload_n (pc := 10) (j := 0) hX 0 rfl rfl dJ13_bitCount_95d88_10 ?_
  refine V_ldc2 (pc := 11) hX (3689348814741910323) w_302 dJ13_bitCount_95d88_11 ?_
  refine V_land (pc := 14) hX dJ13_bitCount_95d88_14 ?_
  refine V_lload_n (pc := 15) (j := 0) hX 0 rfl rfl dJ13_bitCount_95d88_15 ?_
  refine V_iconst (pc := 16) (z := 2) hX (oI 2) rfl dJ13_bitCount_95d88_16 ?_
  refine V_lushr (pc := 17) hX dJ13_bitCount_95d88_17 ?_
  refine V_ldc2 (pc := 18) hX (3689348814741910323) w_302 dJ13_bitCount_95d88_18 ?_
  refine V_land (pc := 21) hX dJ13_bitCount_95d88_21 ?_
  refine V_ladd (pc := 22) hX dJ13_bitCount_95d88_22 ?_
  refine V_lstore_n (pc := 23) (j := 0) hX 0 rfl (by decide) rfl dJ13_bitCount_95d88_23 ?_
  refine V_lload_n (pc := 24) (j := 0) hX 0 rfl rfl dJ13_bitCount_95d88_24 ?_
  refine V_lload_n (pc := 25) (j := 0) hX 0 rfl rfl dJ13_bitCount_95d88_25 ?_
  refine V_iconst (pc := 26) (z := 4) hX (oI 4) rfl dJ13_bitCount_95d88_26 ?_
  refine V_lushr (pc := 27) hX dJ13_bitCount_95d88_27 ?_
  refine V_ladd (pc := 28) hX dJ13_bitCount_95d88_28 ?_
  refine V_ldc2 (pc := 29) hX (1085102592571150095) w_303 dJ13_bitCount_95d88_29 ?_
  refine V_land (pc := 32) hX dJ13_bitCount_95d88_32 ?_
  refine V_lstore_n (pc := 33) (j := 0) hX 0 rfl (by decide) rfl dJ13_bitCount_95d88_33 ?_
  refine V_lload_n (pc := 34) (j := 0) hX 0 rfl rfl dJ13_bitCount_95d88_34 ?_
  refine V_lload_n (pc := 35) (j := 0) hX 0 rfl rfl dJ13_bitCount_95d88_35 ?_
  refine V_bipush (pc := 36) (z := 8) hX (oI 8) (by decide) dJ13_bitCount_95d88_36 ?_
  refine V_lushr (pc := 38) hX dJ13_bitCount_95d88_38 ?_
  refine V_ladd (pc := 39) hX dJ13_bitCount_95d88_39 ?_
  refine V_lstore_n (pc := 40) (j := 0) hX 0 rfl (by decide) rfl dJ13_bitCount_95d88_40 ?_
  refine V_lload_n (pc := 41) (j := 0) hX 0 rfl rfl dJ13_bitCount_95d88_41 ?_
  refine V_lload_n (pc := 42) (j := 0) hX 0 rfl rfl dJ13_bitCount_95d88_42 ?_
  refine V_bipush (pc := 43) (z := 16) hX (oI 16) (by decide) dJ13_bitCount_95d88_43 ?_
  refine V_lushr (pc := 45) hX dJ13_bitCount_95d88_45 ?_
  refine V_ladd (pc := 46) hX dJ13_bitCount_95d88_46 ?_
  refine V_lstore_n (pc := 47) (j := 0) hX 0 rfl (by decide) rfl dJ13_bitCount_95d88_47 ?_
  refine V_lload_n (pc := 48) (j := 0) hX 0 rfl rfl dJ13_bitCount_95d88_48 ?_
  refine V_lload_n (pc := 49) (j := 0) hX 0 rfl rfl dJ13_bitCount_95d88_49 ?_
  refine V_bipush (pc := 50) (z := 32) hX (oI 32) (by decide) dJ13_bitCount_95d88_50 ?_
  refine V_lushr (pc := 52) hX dJ13_bitCount_95d88_52 ?_
  refine V_ladd (pc := 53) hX dJ13_bitCount_95d88_53 ?_
  refine V_lstore_n (pc := 54) (j := 0) hX 0 rfl (by decide) rfl dJ13_bitCount_95d88_54 ?_
  refine V_lload_n (pc := 55) (j := 0) hX 0 rfl rfl dJ13_bitCount_95d88_55 ?_
  refine V_l2i (pc := 56) hX dJ13_bitCount_95d88_56 ?_
  refine V_bipush (pc := 57) (z := 127) hX (oI 127) (by decide) dJ13_bitCount_95d88_57 ?_
  refine V_iand (pc := 59) hX dJ13_bitCount_95d88_59 ?_
  refine V_iret (pc := 60) hX hR dJ13_bitCount_95d88_60 ?_
  exact ⟨some_int (bit_fin v), rfl⟩
theorem c_J7_fill2 {E : Le} {l : Launch} {D : Dt} {z : Fin 11} {v : Int64} : ConV E l yJ7_fill_d0a16 cJ7_fill_d0a16 5 none 1 [.ref (E.1 (2, z)), .long v] D (lU D 2 z (fun j => if j < 120 then v else D.2.1 2 z j)) := by
  refine Con_of (by decide) (Nat.le_of_ble_eq_true rfl) ?_
  intro X hX hR hl; subst hl
  have loop : ∀ (m : Nat) (k : Nat) (D1 : Dt), k ≤ 120 → D1 = lU D 2 z (fun j => if j < k then v else D.2.1 2 z j) → 120 - k < m → Vw E X 5 D1 6 [(0, some (.ref (E.1 (2, z)))), (1, some (.long v)), (3, some (.int (oI (k : Int)))), (4, some (.int (oI 120)))] [] := by
    intro m
    induction m with
    | zero => intro k D1 g1 g2 g3; omega
    | succ m ih =>
      intro k D1 g1 g2 g3
      refine V_iload_n (pc := 6) (j := 3) hX 3 rfl rfl dJ7_fill_d0a16_6 ?_
      refine V_iload (pc := 7) hX rfl dJ7_fill_d0a16_7 ?_
      refine Z_icmp_ge (pc := 9) (tgt := 22) hX (by omega) (by omega) dJ7_fill_d0a16_9 (by decide) (fun h9 => ?_) (fun h9 => ?_)
      · refine V_vret (pc := 22) hX hR dJ7_fill_d0a16_22 ?_
        have e : k = 120 := by omega
        subst e
        exact ⟨rfl, g2⟩
      · refine V_aload_n (pc := 12) (j := 0) hX 0 rfl rfl dJ7_fill_d0a16_12 ?_
        refine V_iload_n (pc := 13) (j := 3) hX 3 rfl rfl dJ7_fill_d0a16_13 ?_
        refine V_lload_n (pc := 14) (j := 1) hX 1 rfl rfl dJ7_fill_d0a16_14 ?_
        refine zs_2 (pc := 15) hX (k) (by omega) (by omega) dJ7_fill_d0a16_15 ?_
        refine Z_iinc (pc := 16) hX 1 rfl rfl dJ7_fill_d0a16_16 ?_
        refine V_goto (pc := 19) (off := (-13)) (tgt := 6) hX (by decide) dJ7_fill_d0a16_19 ?_
        refine V_cut [(0, some (.ref (E.1 (2, z)))), (1, some (.long v)), (3, some (.int (oI ((k + 1 : Nat) : Int)))), (4, some (.int (oI 120)))] ⟨rfl, rfl, rfl, rfl, trivial⟩ ?_
        refine ih (k + 1) _ (by omega) ?_ (by omega)
        rw [g2, lU_get, lU_lU]
        congr 1
        funext j
        rw [updL_at]
        by_cases q : j = k
        · rw [if_pos q, if_pos (by omega)]
        · rw [if_neg q]
          by_cases q2 : j < k
          · rw [if_pos q2, if_pos (by omega)]
          · rw [if_neg q2, if_neg (by omega)]
  refine V_iconst (pc := 0) (z := 0) hX (oI 0) rfl dJ7_fill_d0a16_0 ?_
  refine V_istore_n (pc := 1) (j := 3) hX 3 rfl (by decide) rfl dJ7_fill_d0a16_1 ?_
  refine V_aload_n (pc := 2) (j := 0) hX 0 rfl rfl dJ7_fill_d0a16_2 ?_
  refine an_2 (pc := 3) hX dJ7_fill_d0a16_3 ?_
  refine V_oI 120 (by decide) ?_
  refine V_istore (pc := 4) hX (by decide) rfl dJ7_fill_d0a16_4 ?_
  refine V_cut [(0, some (.ref (E.1 (2, z)))), (1, some (.long v)), (3, some (.int (oI ((0 : Nat) : Int)))), (4, some (.int (oI 120)))] ⟨rfl, rfl, rfl, rfl, trivial⟩ ?_
  exact loop 121 0 D (by omega) (by simp only [Nat.not_lt_zero, if_false]; rw [lU_self]) (by omega)
theorem c_J7_fill3 {E : Le} {l : Launch} {D : Dt} {z : Fin 11} {v : Int64} : ConV E l yJ7_fill_d0a16 cJ7_fill_d0a16 5 none 1 [.ref (E.1 (3, z)), .long v] D (lU D 3 z (fun j => if j < 120 then v else D.2.1 3 z j)) := by
  refine Con_of (by decide) (Nat.le_of_ble_eq_true rfl) ?_
  intro X hX hR hl; subst hl
  have loop : ∀ (m : Nat) (k : Nat) (D1 : Dt), k ≤ 120 → D1 = lU D 3 z (fun j => if j < k then v else D.2.1 3 z j) → 120 - k < m → Vw E X 5 D1 6 [(0, some (.ref (E.1 (3, z)))), (1, some (.long v)), (3, some (.int (oI (k : Int)))), (4, some (.int (oI 120)))] [] := by
    intro m
    induction m with
    | zero => intro k D1 g1 g2 g3; omega
    | succ m ih =>
      intro k D1 g1 g2 g3
      refine V_iload_n (pc := 6) (j := 3) hX 3 rfl rfl dJ7_fill_d0a16_6 ?_
      refine V_iload (pc := 7) hX rfl dJ7_fill_d0a16_7 ?_
      refine Z_icmp_ge (pc := 9) (tgt := 22) hX (by omega) (by omega) dJ7_fill_d0a16_9 (by decide) (fun h9 => ?_) (fun h9 => ?_)
      · refine V_vret (pc := 22) hX hR dJ7_fill_d0a16_22 ?_
        have e : k = 120 := by omega
        subst e
        exact ⟨rfl, g2⟩
      · refine V_aload_n (pc := 12) (j := 0) hX 0 rfl rfl dJ7_fill_d0a16_12 ?_
        refine V_iload_n (pc := 13) (j := 3) hX 3 rfl rfl dJ7_fill_d0a16_13 ?_
        refine V_lload_n (pc := 14) (j := 1) hX 1 rfl rfl dJ7_fill_d0a16_14 ?_
        refine zs_3 (pc := 15) hX (k) (by omega) (by omega) dJ7_fill_d0a16_15 ?_
        refine Z_iinc (pc := 16) hX 1 rfl rfl dJ7_fill_d0a16_16 ?_
        refine V_goto (pc := 19) (off := (-13)) (tgt := 6) hX (by decide) dJ7_fill_d0a16_19 ?_
        refine V_cut [(0, some (.ref (E.1 (3, z)))), (1, some (.long v)), (3, some (.int (oI ((k + 1 : Nat) : Int)))), (4, some (.int (oI 120)))] ⟨rfl, rfl, rfl, rfl, trivial⟩ ?_
        refine ih (k + 1) _ (by omega) ?_ (by omega)
        rw [g2, lU_get, lU_lU]
        congr 1
        funext j
        rw [updL_at]
        by_cases q : j = k
        · rw [if_pos q, if_pos (by omega)]
        · rw [if_neg q]
          by_cases q2 : j < k
          · rw [if_pos q2, if_pos (by omega)]
          · rw [if_neg q2, if_neg (by omega)]
  refine V_iconst (pc := 0) (z := 0) hX (oI 0) rfl dJ7_fill_d0a16_0 ?_
  refine V_istore_n (pc := 1) (j := 3) hX 3 rfl (by decide) rfl dJ7_fill_d0a16_1 ?_
  refine V_aload_n (pc := 2) (j := 0) hX 0 rfl rfl dJ7_fill_d0a16_2 ?_
  refine an_3 (pc := 3) hX dJ7_fill_d0a16_3 ?_
  refine V_oI 120 (by decide) ?_
  refine V_istore (pc := 4) hX (by decide) rfl dJ7_fill_d0a16_4 ?_
  refine V_cut [(0, some (.ref (E.1 (3, z)))), (1, some (.long v)), (3, some (.int (oI ((0 : Nat) : Int)))), (4, some (.int (oI 120)))] ⟨rfl, rfl, rfl, rfl, trivial⟩ ?_
  exact loop 121 0 D (by omega) (by simp only [Nat.not_lt_zero, if_false]; rw [lU_self]) (by omega)
def noC : Cl := fun _ _ => false
theorem AC_none {D : Dt} {z : Fin 11} {f g : Nat → Int64} (hf : ∀ j, j < 120 → f j = 0) (hg : ∀ j, j < 120 → g j = 0) : AC (lU (lU D 2 z f) 3 z g) z noC := by
  refine AC_mk (fun j hj => ?_) (fun j hj => ?_)
  · rw [lU_ne _ _ (by simp), lU_get, hf j hj]; exact ⟨b60_0, fun i _ => tb_0 i⟩
  · rw [lU_get, hg j hj]; exact ⟨b60_0, fun i _ => tb_0 i⟩
theorem c_X0_empty {E : Le} {l : Launch} {D : Dt} {z : Fin 11} : ConVp E l yX0_empty cX0_empty 1 none 2 [.ref (E.1 (1, z))] D (fun D' => Az z D D' ∧ AC D' z noC) := by
  refine Con_of (by decide) (Nat.le_of_ble_eq_true rfl) ?_
  intro X hX hR hl; subst hl
  refine V_aload_n (pc := 0) (j := 0) hX 0 rfl rfl dX0_empty_0 ?_
  refine gf_X0_9 (pc := 1) hX dX0_empty_1 ?_
  refine V_lconst (pc := 4) (z := 0) hX 0 (by decide) dX0_empty_4 ?_
  refine cSV2 (pc := 5) hX (c_J7_fill2) (by decide) st_X0_18 (Nat.le_of_ble_eq_true rfl) dX0_empty_5 ?_
  refine V_aload_n (pc := 8) (j := 0) hX 0 rfl rfl dX0_empty_8 ?_
  refine gf_X0_15 (pc := 9) hX dX0_empty_9 ?_
  refine V_lconst (pc := 12) (z := 0) hX 0 (by decide) dX0_empty_12 ?_
  refine cSV2 (pc := 13) hX (c_J7_fill3) (by decide) st_X0_18 (Nat.le_of_ble_eq_true rfl) dX0_empty_13 ?_
  refine V_vret (pc := 16) hX hR dX0_empty_16 ?_
  exact ⟨rfl, (Az_2 z D _).tr (Az_3 z _ _), AC_none (fun j hj => if_pos hj) (fun j hj => if_pos hj)⟩
def fillC (S : Cl) (x y xb yb : Int) : Cl := fun i j => S i j || decide ((x ≤ (i : Int) - 60 ∧ (i : Int) - 60 < xb) ∧ y ≤ (j : Int) - 60 ∧ (j : Int) - 60 < yb)
theorem AC_fill {D D' : Dt} {z : Fin 11} {S : Cl} {x y xb yb : Int} (hA : AC D z S) (h2 : ∀ j, j < 120 → D'.2.1 2 z j = if y ≤ (j : Int) - 60 ∧ (j : Int) - 60 < yb then D.2.1 2 z j ||| bitsV (x + 60) (xb + 60) else D.2.1 2 z j) (h3 : ∀ j, j < 120 → D'.2.1 3 z j = if y ≤ (j : Int) - 60 ∧ (j : Int) - 60 < yb then D.2.1 3 z j ||| bitsV x xb else D.2.1 3 z j) : AC D' z (fillC S x y xb yb) := by
  refine AC_mk (fun j hj => ?_) (fun j hj => ?_)
  · rw [h2 j hj]
    by_cases q : y ≤ (j : Int) - 60 ∧ (j : Int) - 60 < yb
    · rw [if_pos q]
      refine ⟨b60_or (AC_60w hA hj) (bitsV_60 _ _), fun i hi => ?_⟩
      rw [tb_or, AC_w hA hi hj, bitsV_tb, fillC]
      exact orE (by omega)
    · rw [if_neg q]
      exact ⟨AC_60w hA hj, fun i hi => by rw [AC_w hA hi hj, fillC, decide_eq_false (by omega), Bool.or_false]⟩
  · rw [h3 j hj]
    by_cases q : y ≤ (j : Int) - 60 ∧ (j : Int) - 60 < yb
    · rw [if_pos q]
      refine ⟨b60_or (AC_60e hA hj) (bitsV_60 _ _), fun i hi => ?_⟩
      rw [tb_or, AC_e hA hi hj, bitsV_tb, fillC]
      exact orE (by omega)
    · rw [if_neg q]
      exact ⟨AC_60e hA hj, fun i hi => by rw [AC_e hA hi hj, fillC, decide_eq_false (by omega), Bool.or_false]⟩
theorem c_X0_fill {E : Le} {l : Launch} {D : Dt} {z : Fin 11} {S : Cl} {x y xb yb : Int} (hx : -900 ≤ x ∧ x ≤ 900) (hy : -900 ≤ y ∧ y ≤ 900) (hxb : -900 ≤ xb ∧ xb ≤ 900) (hyb : -900 ≤ yb ∧ yb ≤ 900) (hA : AC D z S) : ConVp E l yX0_fill cX0_fill 11 none 2 [.ref (E.1 (1, z)), .int (oI x), .int (oI y), .int (oI xb), .int (oI yb)] D (fun D' => Az z D D' ∧ AC D' z (fillC S x y xb yb)) := by
  refine Con_of (by decide) (Nat.le_of_ble_eq_true rfl) ?_
  intro X hX hR hl; subst hl
  have loop : ∀ (m : Nat) (k : Nat) (D1 : Dt), (max y (-60) + 60).toNat ≤ k ∧ (k : Int) ≤ max (max y (-60) + 60) (min yb 60 + 60) → Az z D D1 → (∀ j, D1.2.1 2 z j = (if (max y (-60) + 60).toNat ≤ j ∧ j < k then D.2.1 2 z j ||| bitsV (x + 60) (xb + 60) else D.2.1 2 z j) ∧ D1.2.1 3 z j = (if (max y (-60) + 60).toNat ≤ j ∧ j < k then D.2.1 3 z j ||| bitsV x xb else D.2.1 3 z j)) → 2000 - k < m → Vw E X 11 D1 43 [(0, some (.ref (E.1 (1, z)))), (5, some (.long (bitsV (x + 60) (xb + 60)))), (7, some (.long (bitsV x xb))), (9, some (.int (oI (min yb 60 + 60)))), (10, some (.int (oI (k : Int))))] [] := by
    intro m
    induction m with
    | zero => intro k D1 g1 g2 g3 g4; omega
    | succ m ih =>
      intro k D1 g1 g2 g3 g4
      refine V_iload (pc := 43) hX rfl dX0_fill_43 ?_
      refine V_iload (pc := 45) hX rfl dX0_fill_45 ?_
      refine Z_icmp_ge (pc := 47) (tgt := 80) hX (by omega) (by omega) dX0_fill_47 (by decide) (fun h47 => ?_) (fun h47 => ?_)
      · refine V_vret (pc := 80) hX hR dX0_fill_80 ?_
        refine ⟨rfl, g2, AC_fill hA (fun j hj => ?_) (fun j hj => ?_)⟩
        · rw [(g3 j).1]
          by_cases q : y ≤ (j : Int) - 60 ∧ (j : Int) - 60 < yb
          · rw [if_pos q, if_pos (by omega)]
          · rw [if_neg q, if_neg (by omega)]
        · rw [(g3 j).2]
          by_cases q : y ≤ (j : Int) - 60 ∧ (j : Int) - 60 < yb
          · rw [if_pos q, if_pos (by omega)]
          · rw [if_neg q, if_neg (by omega)]
      · refine V_aload_n (pc := 50) (j := 0) hX 0 rfl rfl dX0_fill_50 ?_
        refine gf_X0_9 (pc := 51) hX dX0_fill_51 ?_
        refine V_iload (pc := 54) hX rfl dX0_fill_54 ?_
        refine V_dup2_11 (pc := 56) hX rfl rfl dX0_fill_56 ?_
        refine zl_2 (pc := 57) hX (k) (by omega) (by omega) dX0_fill_57 ?_
        refine V_lload (pc := 58) hX rfl dX0_fill_58 ?_
        refine V_lor (pc := 60) hX dX0_fill_60 ?_
        refine zs_2 (pc := 61) hX (k) (by omega) (by omega) dX0_fill_61 ?_
        refine V_aload_n (pc := 62) (j := 0) hX 0 rfl rfl dX0_fill_62 ?_
        refine gf_X0_15 (pc := 63) hX dX0_fill_63 ?_
        refine V_iload (pc := 66) hX rfl dX0_fill_66 ?_
        refine V_dup2_11 (pc := 68) hX rfl rfl dX0_fill_68 ?_
        refine zl_3 (pc := 69) hX (k) (by omega) (by omega) dX0_fill_69 ?_
        refine V_lload (pc := 70) hX rfl dX0_fill_70 ?_
        refine V_lor (pc := 72) hX dX0_fill_72 ?_
        refine zs_3 (pc := 73) hX (k) (by omega) (by omega) dX0_fill_73 ?_
        refine Z_iinc (pc := 74) hX 1 rfl rfl dX0_fill_74 ?_
        refine V_goto (pc := 77) (off := (-34)) (tgt := 43) hX (by decide) dX0_fill_77 ?_
        refine V_cut [(0, some (.ref (E.1 (1, z)))), (5, some (.long (bitsV (x + 60) (xb + 60)))), (7, some (.long (bitsV x xb))), (9, some (.int (oI (min yb 60 + 60)))), (10, some (.int (oI ((k + 1 : Nat) : Int))))] ⟨rfl, rfl, rfl, rfl, rfl, trivial⟩ ?_
        refine ih (k + 1) _ (by omega) ((g2.tr (Az_2 z _ _)).tr (Az_3 z _ _)) (fun j => ?_) (by omega)
        rw [lU_get, lU_ne _ _ (by simp), lU_get, lU_ne _ _ (by simp), updL_at, updL_at]
        by_cases q : j = k
        · subst q
          have c1 : ¬ ((max y (-60) + 60).toNat ≤ j ∧ j < j) := by omega
          have c2 : (max y (-60) + 60).toNat ≤ j ∧ j < j + 1 := by omega
          rw [if_pos rfl, if_pos rfl, (g3 j).1, (g3 j).2, if_neg c1, if_neg c1, if_pos c2, if_pos c2]
          exact ⟨rfl, rfl⟩
        · rw [if_neg q, if_neg q, (g3 j).1, (g3 j).2]
          by_cases q2 : (max y (-60) + 60).toNat ≤ j ∧ j < k
          · have c2 : (max y (-60) + 60).toNat ≤ j ∧ j < k + 1 := by omega
            rw [if_pos q2, if_pos q2, if_pos c2, if_pos c2]; exact ⟨rfl, rfl⟩
          · have c2 : ¬ ((max y (-60) + 60).toNat ≤ j ∧ j < k + 1) := by omega
            rw [if_neg q2, if_neg q2, if_neg c2, if_neg c2]; exact ⟨rfl, rfl⟩
  refine V_iload_n (pc := 0) (j := 1) hX 1 rfl rfl dX0_fill_0 ?_
  refine V_bipush (pc := 1) (z := 60) hX (oI 60) (by decide) dX0_fill_1 ?_
  refine Z_iadd (pc := 3) hX dX0_fill_3 ?_
  refine V_iload_n (pc := 4) (j := 3) hX 3 rfl rfl dX0_fill_4 ?_
  refine V_bipush (pc := 5) (z := 60) hX (oI 60) (by decide) dX0_fill_5 ?_
  refine Z_iadd (pc := 7) hX dX0_fill_7 ?_
  refine cSL2 (pc := 8) hX (c_X0_bits (by omega) (by omega)) (by decide) st_X0_30 (Nat.le_of_ble_eq_true rfl) dX0_fill_8 ?_
  refine V_lstore (pc := 11) hX (by decide) rfl dX0_fill_11 ?_
  refine V_iload_n (pc := 13) (j := 1) hX 1 rfl rfl dX0_fill_13 ?_
  refine V_iload_n (pc := 14) (j := 3) hX 3 rfl rfl dX0_fill_14 ?_
  refine cSL2 (pc := 15) hX (c_X0_bits (by omega) (by omega)) (by decide) st_X0_30 (Nat.le_of_ble_eq_true rfl) dX0_fill_15 ?_
  refine V_lstore (pc := 18) hX (by decide) rfl dX0_fill_18 ?_
  refine V_iload (pc := 20) hX rfl dX0_fill_20 ?_
  refine V_bipush (pc := 22) (z := 60) hX (oI 60) (by decide) dX0_fill_22 ?_
  refine Z_mmin (pc := 24) hX (by omega) (by omega) (by decide) wm_X0_34 (Nat.le_of_ble_eq_true rfl) dX0_fill_24 ?_
  refine V_bipush (pc := 27) (z := 60) hX (oI 60) (by decide) dX0_fill_27 ?_
  refine Z_iadd (pc := 29) hX dX0_fill_29 ?_
  refine V_istore (pc := 30) hX (by decide) rfl dX0_fill_30 ?_
  refine V_iload_n (pc := 32) (j := 2) hX 2 rfl rfl dX0_fill_32 ?_
  refine V_bipush (pc := 33) (z := (-60)) hX (oI (-60)) (by decide) dX0_fill_33 ?_
  refine Z_mmax (pc := 35) hX (by omega) (by omega) (by decide) wm_X0_40 (Nat.le_of_ble_eq_true rfl) dX0_fill_35 ?_
  refine V_bipush (pc := 38) (z := 60) hX (oI 60) (by decide) dX0_fill_38 ?_
  refine Z_iadd (pc := 40) hX dX0_fill_40 ?_
  refine V_istore (pc := 41) hX (by decide) rfl dX0_fill_41 ?_
  refine V_cut [(0, some (.ref (E.1 (1, z)))), (5, some (.long (bitsV (x + 60) (xb + 60)))), (7, some (.long (bitsV x xb))), (9, some (.int (oI (min yb 60 + 60)))), (10, some (.int (oI (((max y (-60) + 60).toNat : Nat) : Int))))] ⟨rfl, rfl, rfl, rfl, congrArg (fun q => some (Value.int (oI q))) (by omega), trivial⟩ ?_
  exact loop 2001 _ D (by omega) (Az.rf z D) (fun j => ⟨by rw [if_neg (by omega)], by rw [if_neg (by omega)]⟩) (by omega)
theorem AC_cntw {D : Dt} {z : Fin 11} {S : Cl} (h : AC D z S) {j : Nat} (hj : j < 120) : bct (D.2.1 2 z j) + bct (D.2.1 3 z j) = fb_ct (fun i => S i j) 120 := by
  rw [bct_60 (AC_60w h hj), bct_60 (AC_60e h hj), show 120 = 60 + 60 from rfl, fb_ct_split, cnt, cnt]
  congr 1
  · exact fb_ct_cong (fun i hi => AC_w h hi hj)
  · exact fb_ct_cong (fun i hi => AC_e h hi hj)
theorem c_X0_cells {E : Le} {l : Launch} {D : Dt} {z : Fin 11} {S : Cl} (hA : AC D z S) : ConI E l yX0_cells cX0_cells 3 (some .int) 2 [.ref (E.1 (1, z))] D (oI (cntC S : Int)) D := by
  refine Con_of (by decide) (Nat.le_of_ble_eq_true rfl) ?_
  intro X hX hR hl; subst hl
  have loop : ∀ (m : Nat) (k : Nat), k ≤ 120 → 120 - k < m → Vw E X 3 D 4 [(0, some (.ref (E.1 (1, z)))), (1, some (.int (oI ((fb_sm (fun j => fb_ct (fun i => S i j) 120) k : Nat) : Int)))), (2, some (.int (oI (k : Int))))] [] := by
    intro m
    induction m with
    | zero => intro k g1 g2; omega
    | succ m ih =>
      intro k g1 g2
      refine V_iload_n (pc := 4) (j := 2) hX 2 rfl rfl dX0_cells_4 ?_
      refine V_bipush (pc := 5) (z := 120) hX (oI 120) (by decide) dX0_cells_5 ?_
      refine Z_icmp_ge (pc := 7) (tgt := 38) hX (by omega) (by omega) dX0_cells_7 (by decide) (fun h7 => ?_) (fun h7 => ?_)
      · refine V_iload_n (pc := 38) (j := 1) hX 1 rfl rfl dX0_cells_38 ?_
        refine V_iret (pc := 39) hX hR dX0_cells_39 ?_
        have e : k = 120 := by omega
        subst e
        exact ⟨rfl, rfl⟩
      · refine V_iload_n (pc := 10) (j := 1) hX 1 rfl rfl dX0_cells_10 ?_
        refine V_aload_n (pc := 11) (j := 0) hX 0 rfl rfl dX0_cells_11 ?_
        refine gf_X0_9 (pc := 12) hX dX0_cells_12 ?_
        refine V_iload_n (pc := 15) (j := 2) hX 2 rfl rfl dX0_cells_15 ?_
        refine zl_2 (pc := 16) hX (k) (by omega) (by omega) dX0_cells_16 ?_
        refine cSI1 (pc := 17) hX (c_J13_bitCount_95d88) (by decide) st_X0_58 (Nat.le_of_ble_eq_true rfl) dX0_cells_17 ?_
        refine V_aload_n (pc := 20) (j := 0) hX 0 rfl rfl dX0_cells_20 ?_
        refine gf_X0_15 (pc := 21) hX dX0_cells_21 ?_
        refine V_iload_n (pc := 24) (j := 2) hX 2 rfl rfl dX0_cells_24 ?_
        refine zl_3 (pc := 25) hX (k) (by omega) (by omega) dX0_cells_25 ?_
        refine cSI1 (pc := 26) hX (c_J13_bitCount_95d88) (by decide) st_X0_58 (Nat.le_of_ble_eq_true rfl) dX0_cells_26 ?_
        refine Z_iadd (pc := 29) hX dX0_cells_29 ?_
        refine Z_iadd (pc := 30) hX dX0_cells_30 ?_
        refine V_istore_n (pc := 31) (j := 1) hX 1 rfl (by decide) rfl dX0_cells_31 ?_
        refine Z_iinc (pc := 32) hX 1 rfl rfl dX0_cells_32 ?_
        refine V_goto (pc := 35) (off := (-31)) (tgt := 4) hX (by decide) dX0_cells_35 ?_
        refine V_cut [(0, some (.ref (E.1 (1, z)))), (1, some (.int (oI ((fb_sm (fun j => fb_ct (fun i => S i j) 120) (k + 1) : Nat) : Int)))), (2, some (.int (oI ((k + 1 : Nat) : Int))))] ⟨rfl, congrArg (fun q => some (Value.int (oI q))) (by rw [fb_sm_succ, ← AC_cntw hA (by omega)]; omega), rfl, trivial⟩ ?_
        exact ih (k + 1) (by omega) (by omega)
  refine V_iconst (pc := 0) (z := 0) hX (oI 0) rfl dX0_cells_0 ?_
  refine V_istore_n (pc := 1) (j := 1) hX 1 rfl (by decide) rfl dX0_cells_1 ?_
  refine V_iconst (pc := 2) (z := 0) hX (oI 0) rfl dX0_cells_2 ?_
  refine V_istore_n (pc := 3) (j := 2) hX 2 rfl (by decide) rfl dX0_cells_3 ?_
  refine V_cut [(0, some (.ref (E.1 (1, z)))), (1, some (.int (oI ((0 : Nat) : Int)))), (2, some (.int (oI ((0 : Nat) : Int))))] ⟨rfl, rfl, rfl, trivial⟩ ?_
  exact loop 121 0 (by omega) (by omega)
theorem c_X0_cellsInRow {E : Le} {l : Launch} {D : Dt} {z : Fin 11} {S : Cl} {y : Int} (hy : -60 ≤ y ∧ y ≤ 59) (hA : AC D z S) : ConI E l yX0_cellsInRow cX0_cellsInRow 2 (some .int) 2 [.ref (E.1 (1, z)), .int (oI y)] D (oI ((fb_ct (fun i => S i (y + 60).toNat) 120 : Nat) : Int)) D := by
  refine Con_of (by decide) (Nat.le_of_ble_eq_true rfl) ?_
  intro X hX hR hl; subst hl
  refine V_aload_n (pc := 0) (j := 0) hX 0 rfl rfl dX0_cellsInRow_0 ?_
  refine gf_X0_9 (pc := 1) hX dX0_cellsInRow_1 ?_
  refine V_iload_n (pc := 4) (j := 1) hX 1 rfl rfl dX0_cellsInRow_4 ?_
  refine V_bipush (pc := 5) (z := 60) hX (oI 60) (by decide) dX0_cellsInRow_5 ?_
  refine Z_iadd (pc := 7) hX dX0_cellsInRow_7 ?_
  refine zl_2 (pc := 8) hX ((y + 60).toNat) (by omega) (by omega) dX0_cellsInRow_8 ?_
  refine cSI1 (pc := 9) hX (c_J13_bitCount_95d88) (by decide) st_X0_58 (Nat.le_of_ble_eq_true rfl) dX0_cellsInRow_9 ?_
  refine V_aload_n (pc := 12) (j := 0) hX 0 rfl rfl dX0_cellsInRow_12 ?_
  refine gf_X0_15 (pc := 13) hX dX0_cellsInRow_13 ?_
  refine V_iload_n (pc := 16) (j := 1) hX 1 rfl rfl dX0_cellsInRow_16 ?_
  refine V_bipush (pc := 17) (z := 60) hX (oI 60) (by decide) dX0_cellsInRow_17 ?_
  refine Z_iadd (pc := 19) hX dX0_cellsInRow_19 ?_
  refine zl_3 (pc := 20) hX ((y + 60).toNat) (by omega) (by omega) dX0_cellsInRow_20 ?_
  refine cSI1 (pc := 21) hX (c_J13_bitCount_95d88) (by decide) st_X0_58 (Nat.le_of_ble_eq_true rfl) dX0_cellsInRow_21 ?_
  refine Z_iadd (pc := 24) hX dX0_cellsInRow_24 ?_
  refine V_iret (pc := 25) hX hR dX0_cellsInRow_25 ?_
  exact ⟨congrArg (fun q => some (Value.int (oI q))) (by rw [← AC_cntw hA (by omega)]; omega), rfl⟩
